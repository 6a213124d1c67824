theorem dX1_init_0 : decode cX1_init 0 = .ok (.aload_n 0, 1) := by decide +kernel
theorem dX1_init_1 : decode cX1_init 1 = .ok (.invokespecial 3, 3) := by decide +kernel
theorem dX1_init_4 : decode cX1_init 4 = .ok (.aload_n 0, 1) := by decide +kernel
theorem dX1_init_5 : decode cX1_init 5 = .ok (.bipush 6, 2) := by decide +kernel
theorem dX1_init_7 : decode cX1_init 7 = .ok (.newarray .int, 2) := by decide +kernel
theorem dX1_init_9 : decode cX1_init 9 = .ok (.putfield 9, 3) := by decide +kernel
theorem dX1_init_12 : decode cX1_init 12 = .ok (.aload_n 0, 1) := by decide +kernel
theorem dX1_init_13 : decode cX1_init 13 = .ok (.bipush 6, 2) := by decide +kernel
theorem dX1_init_15 : decode cX1_init 15 = .ok (.newarray .int, 2) := by decide +kernel
theorem dX1_init_17 : decode cX1_init 17 = .ok (.putfield 15, 3) := by decide +kernel
theorem dX1_init_20 : decode cX1_init 20 = .ok (.aload_n 0, 1) := by decide +kernel
theorem dX1_init_21 : decode cX1_init 21 = .ok (.bipush 6, 2) := by decide +kernel
theorem dX1_init_23 : decode cX1_init 23 = .ok (.newarray .int, 2) := by decide +kernel
theorem dX1_init_25 : decode cX1_init 25 = .ok (.putfield 18, 3) := by decide +kernel
theorem dX1_init_28 : decode cX1_init 28 = .ok (.return_, 1) := by decide +kernel
theorem dX1_becomeNew_0 : decode cX1_becomeNew 0 = .ok (.aload_n 0, 1) := by decide +kernel
theorem dX1_becomeNew_1 : decode cX1_becomeNew 1 = .ok (.iconst 0, 1) := by decide +kernel
theorem dX1_becomeNew_2 : decode cX1_becomeNew 2 = .ok (.putfield 21, 3) := by decide +kernel
theorem dX1_becomeNew_5 : decode cX1_becomeNew 5 = .ok (.return_, 1) := by decide +kernel
theorem dX1_take_0 : decode cX1_take 0 = .ok (.aload_n 1, 1) := by decide +kernel
theorem dX1_take_1 : decode cX1_take 1 = .ok (.getfield 9, 3) := by decide +kernel
theorem dX1_take_4 : decode cX1_take 4 = .ok (.iconst 0, 1) := by decide +kernel
theorem dX1_take_5 : decode cX1_take 5 = .ok (.aload_n 0, 1) := by decide +kernel
theorem dX1_take_6 : decode cX1_take 6 = .ok (.getfield 9, 3) := by decide +kernel
theorem dX1_take_9 : decode cX1_take 9 = .ok (.iconst 0, 1) := by decide +kernel
theorem dX1_take_10 : decode cX1_take 10 = .ok (.bipush 6, 2) := by decide +kernel
theorem dX1_take_12 : decode cX1_take 12 = .ok (.invokestatic 25, 3) := by decide +kernel
theorem dX1_take_15 : decode cX1_take 15 = .ok (.aload_n 1, 1) := by decide +kernel
theorem dX1_take_16 : decode cX1_take 16 = .ok (.getfield 15, 3) := by decide +kernel
theorem dX1_take_19 : decode cX1_take 19 = .ok (.iconst 0, 1) := by decide +kernel
theorem dX1_take_20 : decode cX1_take 20 = .ok (.aload_n 0, 1) := by decide +kernel
theorem dX1_take_21 : decode cX1_take 21 = .ok (.getfield 15, 3) := by decide +kernel
theorem dX1_take_24 : decode cX1_take 24 = .ok (.iconst 0, 1) := by decide +kernel
theorem dX1_take_25 : decode cX1_take 25 = .ok (.bipush 6, 2) := by decide +kernel
theorem dX1_take_27 : decode cX1_take 27 = .ok (.invokestatic 25, 3) := by decide +kernel
theorem dX1_take_30 : decode cX1_take 30 = .ok (.aload_n 1, 1) := by decide +kernel
theorem dX1_take_31 : decode cX1_take 31 = .ok (.getfield 18, 3) := by decide +kernel
theorem dX1_take_34 : decode cX1_take 34 = .ok (.iconst 0, 1) := by decide +kernel
theorem dX1_take_35 : decode cX1_take 35 = .ok (.aload_n 0, 1) := by decide +kernel
theorem dX1_take_36 : decode cX1_take 36 = .ok (.getfield 18, 3) := by decide +kernel
theorem dX1_take_39 : decode cX1_take 39 = .ok (.iconst 0, 1) := by decide +kernel
theorem dX1_take_40 : decode cX1_take 40 = .ok (.bipush 6, 2) := by decide +kernel
theorem dX1_take_42 : decode cX1_take 42 = .ok (.invokestatic 25, 3) := by decide +kernel
theorem dX1_take_45 : decode cX1_take 45 = .ok (.aload_n 0, 1) := by decide +kernel
theorem dX1_take_46 : decode cX1_take 46 = .ok (.aload_n 1, 1) := by decide +kernel
theorem dX1_take_47 : decode cX1_take 47 = .ok (.getfield 21, 3) := by decide +kernel
theorem dX1_take_50 : decode cX1_take 50 = .ok (.putfield 21, 3) := by decide +kernel
theorem dX1_take_53 : decode cX1_take 53 = .ok (.return_, 1) := by decide +kernel
theorem dX1_catOn_0 : decode cX1_catOn 0 = .ok (.iconst 0, 1) := by decide +kernel
theorem dX1_catOn_1 : decode cX1_catOn 1 = .ok (.istore_n 2, 1) := by decide +kernel
theorem dX1_catOn_2 : decode cX1_catOn 2 = .ok (.iload_n 2, 1) := by decide +kernel
theorem dX1_catOn_3 : decode cX1_catOn 3 = .ok (.aload_n 0, 1) := by decide +kernel
theorem dX1_catOn_4 : decode cX1_catOn 4 = .ok (.getfield 21, 3) := by decide +kernel
theorem dX1_catOn_7 : decode cX1_catOn 7 = .ok (.if_icmp .ge 21, 3) := by decide +kernel
theorem dX1_catOn_10 : decode cX1_catOn 10 = .ok (.aload_n 0, 1) := by decide +kernel
theorem dX1_catOn_11 : decode cX1_catOn 11 = .ok (.getfield 9, 3) := by decide +kernel
theorem dX1_catOn_14 : decode cX1_catOn 14 = .ok (.iload_n 2, 1) := by decide +kernel
theorem dX1_catOn_15 : decode cX1_catOn 15 = .ok (.iaload, 1) := by decide +kernel
theorem dX1_catOn_16 : decode cX1_catOn 16 = .ok (.iload_n 1, 1) := by decide +kernel
theorem dX1_catOn_17 : decode cX1_catOn 17 = .ok (.if_icmp .ne 5, 3) := by decide +kernel
theorem dX1_catOn_20 : decode cX1_catOn 20 = .ok (.iload_n 2, 1) := by decide +kernel
theorem dX1_catOn_21 : decode cX1_catOn 21 = .ok (.ireturn, 1) := by decide +kernel
theorem dX1_catOn_22 : decode cX1_catOn 22 = .ok (.iinc 2 1, 3) := by decide +kernel
theorem dX1_catOn_25 : decode cX1_catOn 25 = .ok (.goto (-23), 3) := by decide +kernel
theorem dX1_catOn_28 : decode cX1_catOn 28 = .ok (.bipush (-4), 2) := by decide +kernel
theorem dX1_catOn_30 : decode cX1_catOn 30 = .ok (.ireturn, 1) := by decide +kernel
theorem dX1_add_0 : decode cX1_add 0 = .ok (.aload_n 0, 1) := by decide +kernel
theorem dX1_add_1 : decode cX1_add 1 = .ok (.getfield 21, 3) := by decide +kernel
theorem dX1_add_4 : decode cX1_add 4 = .ok (.istore_n 2, 1) := by decide +kernel
theorem dX1_add_5 : decode cX1_add 5 = .ok (.aload_n 0, 1) := by decide +kernel
theorem dX1_add_6 : decode cX1_add 6 = .ok (.getfield 9, 3) := by decide +kernel
theorem dX1_add_9 : decode cX1_add 9 = .ok (.iload_n 2, 1) := by decide +kernel
theorem dX1_add_10 : decode cX1_add 10 = .ok (.iload_n 1, 1) := by decide +kernel
theorem dX1_add_11 : decode cX1_add 11 = .ok (.iastore, 1) := by decide +kernel
theorem dX1_add_12 : decode cX1_add 12 = .ok (.aload_n 0, 1) := by decide +kernel
theorem dX1_add_13 : decode cX1_add 13 = .ok (.getfield 15, 3) := by decide +kernel
theorem dX1_add_16 : decode cX1_add 16 = .ok (.iload_n 2, 1) := by decide +kernel
theorem dX1_add_17 : decode cX1_add 17 = .ok (.iload_n 1, 1) := by decide +kernel
theorem dX1_add_18 : decode cX1_add 18 = .ok (.iastore, 1) := by decide +kernel
theorem dX1_add_19 : decode cX1_add 19 = .ok (.aload_n 0, 1) := by decide +kernel
theorem dX1_add_20 : decode cX1_add 20 = .ok (.getfield 18, 3) := by decide +kernel
theorem dX1_add_23 : decode cX1_add 23 = .ok (.iload_n 2, 1) := by decide +kernel
theorem dX1_add_24 : decode cX1_add 24 = .ok (.iconst 0, 1) := by decide +kernel
theorem dX1_add_25 : decode cX1_add 25 = .ok (.iastore, 1) := by decide +kernel
theorem dX1_add_26 : decode cX1_add 26 = .ok (.aload_n 0, 1) := by decide +kernel
theorem dX1_add_27 : decode cX1_add 27 = .ok (.dup, 1) := by decide +kernel
theorem dX1_add_28 : decode cX1_add 28 = .ok (.getfield 21, 3) := by decide +kernel
theorem dX1_add_31 : decode cX1_add 31 = .ok (.iconst 1, 1) := by decide +kernel
theorem dX1_add_32 : decode cX1_add 32 = .ok (.iadd, 1) := by decide +kernel
theorem dX1_add_33 : decode cX1_add 33 = .ok (.putfield 21, 3) := by decide +kernel
theorem dX1_add_36 : decode cX1_add 36 = .ok (.iload_n 2, 1) := by decide +kernel
theorem dX1_add_37 : decode cX1_add 37 = .ok (.ireturn, 1) := by decide +kernel
theorem dX1_move_0 : decode cX1_move 0 = .ok (.iload_n 1, 1) := by decide +kernel
theorem dX1_move_1 : decode cX1_move 1 = .ok (.ifCond .lt 11, 3) := by decide +kernel
theorem dX1_move_4 : decode cX1_move 4 = .ok (.iload_n 1, 1) := by decide +kernel
theorem dX1_move_5 : decode cX1_move 5 = .ok (.aload_n 0, 1) := by decide +kernel
theorem dX1_move_6 : decode cX1_move 6 = .ok (.getfield 21, 3) := by decide +kernel
theorem dX1_move_9 : decode cX1_move 9 = .ok (.if_icmp .lt 5, 3) := by decide +kernel
theorem dX1_move_12 : decode cX1_move 12 = .ok (.iconst 0, 1) := by decide +kernel
theorem dX1_move_13 : decode cX1_move 13 = .ok (.ireturn, 1) := by decide +kernel
theorem dX1_move_14 : decode cX1_move 14 = .ok (.aload_n 0, 1) := by decide +kernel
theorem dX1_move_15 : decode cX1_move 15 = .ok (.getfield 9, 3) := by decide +kernel
theorem dX1_move_18 : decode cX1_move 18 = .ok (.iload_n 1, 1) := by decide +kernel
theorem dX1_move_19 : decode cX1_move 19 = .ok (.iload_n 2, 1) := by decide +kernel
theorem dX1_move_20 : decode cX1_move 20 = .ok (.iastore, 1) := by decide +kernel
theorem dX1_move_21 : decode cX1_move 21 = .ok (.aload_n 0, 1) := by decide +kernel
theorem dX1_move_22 : decode cX1_move 22 = .ok (.getfield 18, 3) := by decide +kernel
theorem dX1_move_25 : decode cX1_move 25 = .ok (.iload_n 1, 1) := by decide +kernel
theorem dX1_move_26 : decode cX1_move 26 = .ok (.dup2, 1) := by decide +kernel
theorem dX1_move_27 : decode cX1_move 27 = .ok (.iaload, 1) := by decide +kernel
theorem dX1_move_28 : decode cX1_move 28 = .ok (.iconst 1, 1) := by decide +kernel
theorem dX1_move_29 : decode cX1_move 29 = .ok (.iadd, 1) := by decide +kernel
theorem dX1_move_30 : decode cX1_move 30 = .ok (.iastore, 1) := by decide +kernel
theorem dX1_move_31 : decode cX1_move 31 = .ok (.iconst 1, 1) := by decide +kernel
theorem dX1_move_32 : decode cX1_move 32 = .ok (.ireturn, 1) := by decide +kernel
theorem dX1_countAtHome_0 : decode cX1_countAtHome 0 = .ok (.iconst 0, 1) := by decide +kernel
theorem dX1_countAtHome_1 : decode cX1_countAtHome 1 = .ok (.istore_n 1, 1) := by decide +kernel
theorem dX1_countAtHome_2 : decode cX1_countAtHome 2 = .ok (.iconst 0, 1) := by decide +kernel
theorem dX1_countAtHome_3 : decode cX1_countAtHome 3 = .ok (.istore_n 2, 1) := by decide +kernel
theorem dX1_countAtHome_4 : decode cX1_countAtHome 4 = .ok (.iload_n 2, 1) := by decide +kernel
theorem dX1_countAtHome_5 : decode cX1_countAtHome 5 = .ok (.aload_n 0, 1) := by decide +kernel
theorem dX1_countAtHome_6 : decode cX1_countAtHome 6 = .ok (.getfield 21, 3) := by decide +kernel
theorem dX1_countAtHome_9 : decode cX1_countAtHome 9 = .ok (.if_icmp .ge 27, 3) := by decide +kernel
theorem dX1_countAtHome_12 : decode cX1_countAtHome 12 = .ok (.aload_n 0, 1) := by decide +kernel
theorem dX1_countAtHome_13 : decode cX1_countAtHome 13 = .ok (.getfield 9, 3) := by decide +kernel
theorem dX1_countAtHome_16 : decode cX1_countAtHome 16 = .ok (.iload_n 2, 1) := by decide +kernel
theorem dX1_countAtHome_17 : decode cX1_countAtHome 17 = .ok (.iaload, 1) := by decide +kernel
theorem dX1_countAtHome_18 : decode cX1_countAtHome 18 = .ok (.aload_n 0, 1) := by decide +kernel
theorem dX1_countAtHome_19 : decode cX1_countAtHome 19 = .ok (.getfield 15, 3) := by decide +kernel
theorem dX1_countAtHome_22 : decode cX1_countAtHome 22 = .ok (.iload_n 2, 1) := by decide +kernel
theorem dX1_countAtHome_23 : decode cX1_countAtHome 23 = .ok (.iaload, 1) := by decide +kernel
theorem dX1_countAtHome_24 : decode cX1_countAtHome 24 = .ok (.if_icmp .ne 6, 3) := by decide +kernel
theorem dX1_countAtHome_27 : decode cX1_countAtHome 27 = .ok (.iinc 1 1, 3) := by decide +kernel
theorem dX1_countAtHome_30 : decode cX1_countAtHome 30 = .ok (.iinc 2 1, 3) := by decide +kernel
theorem dX1_countAtHome_33 : decode cX1_countAtHome 33 = .ok (.goto (-29), 3) := by decide +kernel
theorem dX1_countAtHome_36 : decode cX1_countAtHome 36 = .ok (.iload_n 1, 1) := by decide +kernel
theorem dX1_countAtHome_37 : decode cX1_countAtHome 37 = .ok (.ireturn, 1) := by decide +kernel
theorem dX1_swapSum_0 : decode cX1_swapSum 0 = .ok (.iconst 0, 1) := by decide +kernel
theorem dX1_swapSum_1 : decode cX1_swapSum 1 = .ok (.istore_n 1, 1) := by decide +kernel
theorem dX1_swapSum_2 : decode cX1_swapSum 2 = .ok (.iconst 0, 1) := by decide +kernel
theorem dX1_swapSum_3 : decode cX1_swapSum 3 = .ok (.istore_n 2, 1) := by decide +kernel
theorem dX1_swapSum_4 : decode cX1_swapSum 4 = .ok (.iload_n 2, 1) := by decide +kernel
theorem dX1_swapSum_5 : decode cX1_swapSum 5 = .ok (.aload_n 0, 1) := by decide +kernel
theorem dX1_swapSum_6 : decode cX1_swapSum 6 = .ok (.getfield 21, 3) := by decide +kernel
theorem dX1_swapSum_9 : decode cX1_swapSum 9 = .ok (.if_icmp .ge 18, 3) := by decide +kernel
theorem dX1_swapSum_12 : decode cX1_swapSum 12 = .ok (.iload_n 1, 1) := by decide +kernel
theorem dX1_swapSum_13 : decode cX1_swapSum 13 = .ok (.aload_n 0, 1) := by decide +kernel
theorem dX1_swapSum_14 : decode cX1_swapSum 14 = .ok (.getfield 18, 3) := by decide +kernel
theorem dX1_swapSum_17 : decode cX1_swapSum 17 = .ok (.iload_n 2, 1) := by decide +kernel
theorem dX1_swapSum_18 : decode cX1_swapSum 18 = .ok (.iaload, 1) := by decide +kernel
theorem dX1_swapSum_19 : decode cX1_swapSum 19 = .ok (.iadd, 1) := by decide +kernel
theorem dX1_swapSum_20 : decode cX1_swapSum 20 = .ok (.istore_n 1, 1) := by decide +kernel
theorem dX1_swapSum_21 : decode cX1_swapSum 21 = .ok (.iinc 2 1, 3) := by decide +kernel
theorem dX1_swapSum_24 : decode cX1_swapSum 24 = .ok (.goto (-20), 3) := by decide +kernel
theorem dX1_swapSum_27 : decode cX1_swapSum 27 = .ok (.iload_n 1, 1) := by decide +kernel
theorem dX1_swapSum_28 : decode cX1_swapSum 28 = .ok (.ireturn, 1) := by decide +kernel
theorem dX1_isAnyTogether_0 : decode cX1_isAnyTogether 0 = .ok (.iconst 0, 1) := by decide +kernel
theorem dX1_isAnyTogether_1 : decode cX1_isAnyTogether 1 = .ok (.istore_n 1, 1) := by decide +kernel
theorem dX1_isAnyTogether_2 : decode cX1_isAnyTogether 2 = .ok (.iload_n 1, 1) := by decide +kernel
theorem dX1_isAnyTogether_3 : decode cX1_isAnyTogether 3 = .ok (.aload_n 0, 1) := by decide +kernel
theorem dX1_isAnyTogether_4 : decode cX1_isAnyTogether 4 = .ok (.getfield 21, 3) := by decide +kernel
theorem dX1_isAnyTogether_7 : decode cX1_isAnyTogether 7 = .ok (.if_icmp .ge 44, 3) := by decide +kernel
theorem dX1_isAnyTogether_10 : decode cX1_isAnyTogether 10 = .ok (.iload_n 1, 1) := by decide +kernel
theorem dX1_isAnyTogether_11 : decode cX1_isAnyTogether 11 = .ok (.iconst 1, 1) := by decide +kernel
theorem dX1_isAnyTogether_12 : decode cX1_isAnyTogether 12 = .ok (.iadd, 1) := by decide +kernel
theorem dX1_isAnyTogether_13 : decode cX1_isAnyTogether 13 = .ok (.istore_n 2, 1) := by decide +kernel
theorem dX1_isAnyTogether_14 : decode cX1_isAnyTogether 14 = .ok (.iload_n 2, 1) := by decide +kernel
theorem dX1_isAnyTogether_15 : decode cX1_isAnyTogether 15 = .ok (.aload_n 0, 1) := by decide +kernel
theorem dX1_isAnyTogether_16 : decode cX1_isAnyTogether 16 = .ok (.getfield 21, 3) := by decide +kernel
theorem dX1_isAnyTogether_19 : decode cX1_isAnyTogether 19 = .ok (.if_icmp .ge 26, 3) := by decide +kernel
theorem dX1_isAnyTogether_22 : decode cX1_isAnyTogether 22 = .ok (.aload_n 0, 1) := by decide +kernel
theorem dX1_isAnyTogether_23 : decode cX1_isAnyTogether 23 = .ok (.getfield 9, 3) := by decide +kernel
theorem dX1_isAnyTogether_26 : decode cX1_isAnyTogether 26 = .ok (.iload_n 1, 1) := by decide +kernel
theorem dX1_isAnyTogether_27 : decode cX1_isAnyTogether 27 = .ok (.iaload, 1) := by decide +kernel
theorem dX1_isAnyTogether_28 : decode cX1_isAnyTogether 28 = .ok (.aload_n 0, 1) := by decide +kernel
theorem dX1_isAnyTogether_29 : decode cX1_isAnyTogether 29 = .ok (.getfield 9, 3) := by decide +kernel
theorem dX1_isAnyTogether_32 : decode cX1_isAnyTogether 32 = .ok (.iload_n 2, 1) := by decide +kernel
theorem dX1_isAnyTogether_33 : decode cX1_isAnyTogether 33 = .ok (.iaload, 1) := by decide +kernel
theorem dX1_isAnyTogether_34 : decode cX1_isAnyTogether 34 = .ok (.if_icmp .ne 5, 3) := by decide +kernel
theorem dX1_isAnyTogether_37 : decode cX1_isAnyTogether 37 = .ok (.iconst 1, 1) := by decide +kernel
theorem dX1_isAnyTogether_38 : decode cX1_isAnyTogether 38 = .ok (.ireturn, 1) := by decide +kernel
theorem dX1_isAnyTogether_39 : decode cX1_isAnyTogether 39 = .ok (.iinc 2 1, 3) := by decide +kernel
theorem dX1_isAnyTogether_42 : decode cX1_isAnyTogether 42 = .ok (.goto (-28), 3) := by decide +kernel
theorem dX1_isAnyTogether_45 : decode cX1_isAnyTogether 45 = .ok (.iinc 1 1, 3) := by decide +kernel
theorem dX1_isAnyTogether_48 : decode cX1_isAnyTogether 48 = .ok (.goto (-46), 3) := by decide +kernel
theorem dX1_isAnyTogether_51 : decode cX1_isAnyTogether 51 = .ok (.iconst 0, 1) := by decide +kernel
theorem dX1_isAnyTogether_52 : decode cX1_isAnyTogether 52 = .ok (.ireturn, 1) := by decide +kernel
set_option maxRecDepth 20000 in
theorem ggX3_ofBalcony_X6_isFeud : GoodIn wsX3_ofBalcony wsX6_isFeud := goodIn_r _ [5, 6, 7, 8, 9, 10, 11, 12, 13, 14, 15, 16, 17, 18, 19, 20, 21, 22, 23, 24, 25, 26, 27, 28, 29, 30, 31, 32, 33, 34, 35, 36, 37, 38] (by decide +kernel) (by decide +kernel)
set_option maxRecDepth 20000 in
theorem gX3_ofBalcony_X6_isFeud : GoodIn wsX3_ofBalcony (wsV RX3 9 RX6 yX6_isFeud wsX6_isFeud) := goodIn_app (goodIn_of _ (by decide +kernel)) ggX3_ofBalcony_X6_isFeud
theorem dX3_ofBalcony_0 : decode cX3_ofBalcony 0 = .ok (.iconst 0, 1) := by decide +kernel
theorem dX3_ofBalcony_1 : decode cX3_ofBalcony 1 = .ok (.istore_n 2, 1) := by decide +kernel
theorem dX3_ofBalcony_2 : decode cX3_ofBalcony 2 = .ok (.iconst 0, 1) := by decide +kernel
theorem dX3_ofBalcony_3 : decode cX3_ofBalcony 3 = .ok (.istore_n 3, 1) := by decide +kernel
theorem dX3_ofBalcony_4 : decode cX3_ofBalcony 4 = .ok (.iload_n 3, 1) := by decide +kernel
theorem dX3_ofBalcony_5 : decode cX3_ofBalcony 5 = .ok (.bipush 12, 2) := by decide +kernel
theorem dX3_ofBalcony_7 : decode cX3_ofBalcony 7 = .ok (.if_icmp .ge 21, 3) := by decide +kernel
theorem dX3_ofBalcony_10 : decode cX3_ofBalcony 10 = .ok (.aload_n 0, 1) := by decide +kernel
theorem dX3_ofBalcony_11 : decode cX3_ofBalcony 11 = .ok (.iload_n 1, 1) := by decide +kernel
theorem dX3_ofBalcony_12 : decode cX3_ofBalcony 12 = .ok (.iload_n 3, 1) := by decide +kernel
theorem dX3_ofBalcony_13 : decode cX3_ofBalcony 13 = .ok (.invokevirtual 9, 3) := by decide +kernel
theorem dX3_ofBalcony_16 : decode cX3_ofBalcony 16 = .ok (.ifCond .eq 6, 3) := by decide +kernel
theorem dX3_ofBalcony_19 : decode cX3_ofBalcony 19 = .ok (.iinc 2 1, 3) := by decide +kernel
theorem dX3_ofBalcony_22 : decode cX3_ofBalcony 22 = .ok (.iinc 3 1, 3) := by decide +kernel
theorem dX3_ofBalcony_25 : decode cX3_ofBalcony 25 = .ok (.goto (-21), 3) := by decide +kernel
theorem dX3_ofBalcony_28 : decode cX3_ofBalcony 28 = .ok (.iload_n 2, 1) := by decide +kernel
theorem dX3_ofBalcony_29 : decode cX3_ofBalcony 29 = .ok (.ireturn, 1) := by decide +kernel
set_option maxRecDepth 20000 in
theorem ggX3_byPairs_X6_isFeud : GoodIn wsX3_byPairs wsX6_isFeud := goodIn_r _ [5, 6, 7, 8, 9, 10, 11, 12, 13, 14, 15, 16, 17, 18, 19, 20, 21, 22, 23, 24, 25, 26, 27, 28, 29, 30, 31, 32, 33, 34, 35, 36, 37, 38] (by decide +kernel) (by decide +kernel)
set_option maxRecDepth 20000 in
theorem gX3_byPairs_X6_isFeud : GoodIn wsX3_byPairs (wsV RX3 9 RX6 yX6_isFeud wsX6_isFeud) := goodIn_app (goodIn_of _ (by decide +kernel)) ggX3_byPairs_X6_isFeud
theorem dX3_byPairs_0 : decode cX3_byPairs 0 = .ok (.iconst 0, 1) := by decide +kernel
theorem dX3_byPairs_1 : decode cX3_byPairs 1 = .ok (.istore_n 1, 1) := by decide +kernel
theorem dX3_byPairs_2 : decode cX3_byPairs 2 = .ok (.iconst 0, 1) := by decide +kernel
theorem dX3_byPairs_3 : decode cX3_byPairs 3 = .ok (.istore_n 2, 1) := by decide +kernel
theorem dX3_byPairs_4 : decode cX3_byPairs 4 = .ok (.iload_n 2, 1) := by decide +kernel
theorem dX3_byPairs_5 : decode cX3_byPairs 5 = .ok (.bipush 12, 2) := by decide +kernel
theorem dX3_byPairs_7 : decode cX3_byPairs 7 = .ok (.if_icmp .ge 37, 3) := by decide +kernel
theorem dX3_byPairs_10 : decode cX3_byPairs 10 = .ok (.iload_n 2, 1) := by decide +kernel
theorem dX3_byPairs_11 : decode cX3_byPairs 11 = .ok (.iconst 1, 1) := by decide +kernel
theorem dX3_byPairs_12 : decode cX3_byPairs 12 = .ok (.iadd, 1) := by decide +kernel
theorem dX3_byPairs_13 : decode cX3_byPairs 13 = .ok (.istore_n 3, 1) := by decide +kernel
theorem dX3_byPairs_14 : decode cX3_byPairs 14 = .ok (.iload_n 3, 1) := by decide +kernel
theorem dX3_byPairs_15 : decode cX3_byPairs 15 = .ok (.bipush 12, 2) := by decide +kernel
theorem dX3_byPairs_17 : decode cX3_byPairs 17 = .ok (.if_icmp .ge 21, 3) := by decide +kernel
theorem dX3_byPairs_20 : decode cX3_byPairs 20 = .ok (.aload_n 0, 1) := by decide +kernel
theorem dX3_byPairs_21 : decode cX3_byPairs 21 = .ok (.iload_n 2, 1) := by decide +kernel
theorem dX3_byPairs_22 : decode cX3_byPairs 22 = .ok (.iload_n 3, 1) := by decide +kernel
theorem dX3_byPairs_23 : decode cX3_byPairs 23 = .ok (.invokevirtual 9, 3) := by decide +kernel
theorem dX3_byPairs_26 : decode cX3_byPairs 26 = .ok (.ifCond .eq 6, 3) := by decide +kernel
theorem dX3_byPairs_29 : decode cX3_byPairs 29 = .ok (.iinc 1 1, 3) := by decide +kernel
theorem dX3_byPairs_32 : decode cX3_byPairs 32 = .ok (.iinc 3 1, 3) := by decide +kernel
theorem dX3_byPairs_35 : decode cX3_byPairs 35 = .ok (.goto (-21), 3) := by decide +kernel
theorem dX3_byPairs_38 : decode cX3_byPairs 38 = .ok (.iinc 2 1, 3) := by decide +kernel
theorem dX3_byPairs_41 : decode cX3_byPairs 41 = .ok (.goto (-37), 3) := by decide +kernel
theorem dX3_byPairs_44 : decode cX3_byPairs 44 = .ok (.iload_n 1, 1) := by decide +kernel
theorem dX3_byPairs_45 : decode cX3_byPairs 45 = .ok (.ireturn, 1) := by decide +kernel
set_option maxRecDepth 20000 in
theorem ggX3_byColumns_X3_countTooRichAbove : GoodIn wsX3_byColumns wsX3_countTooRichAbove := goodIn_r _ [5, 6, 7, 14, 15, 16, 17, 18, 19, 20, 21, 22, 23] (by decide +kernel) (by decide +kernel)
set_option maxRecDepth 20000 in
theorem gX3_byColumns_X3_countTooRichAbove : GoodIn wsX3_byColumns (va_wsS RX3 15 yX3_countTooRichAbove wsX3_countTooRichAbove) := goodIn_app (goodIn_of _ (by decide +kernel)) ggX3_byColumns_X3_countTooRichAbove
set_option maxRecDepth 20000 in
theorem ggX3_byColumns_X3_countTruces : GoodIn wsX3_byColumns wsX3_countTruces := goodIn_r _ [10, 11, 12, 13, 6, 7, 24, 25, 26, 27, 28, 14, 15, 16, 17, 18, 19, 20, 21, 22, 23] (by decide +kernel) (by decide +kernel)
set_option maxRecDepth 20000 in
theorem gX3_byColumns_X3_countTruces : GoodIn wsX3_byColumns (va_wsS RX3 25 yX3_countTruces wsX3_countTruces) := goodIn_app (goodIn_of _ (by decide +kernel)) ggX3_byColumns_X3_countTruces
theorem dX3_byColumns_0 : decode cX3_byColumns 0 = .ok (.iconst 0, 1) := by decide +kernel
theorem dX3_byColumns_1 : decode cX3_byColumns 1 = .ok (.istore_n 1, 1) := by decide +kernel
theorem dX3_byColumns_2 : decode cX3_byColumns 2 = .ok (.iconst 0, 1) := by decide +kernel
theorem dX3_byColumns_3 : decode cX3_byColumns 3 = .ok (.istore_n 2, 1) := by decide +kernel
theorem dX3_byColumns_4 : decode cX3_byColumns 4 = .ok (.iload_n 2, 1) := by decide +kernel
theorem dX3_byColumns_5 : decode cX3_byColumns 5 = .ok (.iconst 4, 1) := by decide +kernel
theorem dX3_byColumns_6 : decode cX3_byColumns 6 = .ok (.if_icmp .ge 31, 3) := by decide +kernel
theorem dX3_byColumns_9 : decode cX3_byColumns 9 = .ok (.iload_n 2, 1) := by decide +kernel
theorem dX3_byColumns_10 : decode cX3_byColumns 10 = .ok (.istore_n 3, 1) := by decide +kernel
theorem dX3_byColumns_11 : decode cX3_byColumns 11 = .ok (.iload_n 3, 1) := by decide +kernel
theorem dX3_byColumns_12 : decode cX3_byColumns 12 = .ok (.bipush 12, 2) := by decide +kernel
theorem dX3_byColumns_14 : decode cX3_byColumns 14 = .ok (.if_icmp .ge 17, 3) := by decide +kernel
theorem dX3_byColumns_17 : decode cX3_byColumns 17 = .ok (.iload_n 1, 1) := by decide +kernel
theorem dX3_byColumns_18 : decode cX3_byColumns 18 = .ok (.aload_n 0, 1) := by decide +kernel
theorem dX3_byColumns_19 : decode cX3_byColumns 19 = .ok (.iload_n 3, 1) := by decide +kernel
theorem dX3_byColumns_20 : decode cX3_byColumns 20 = .ok (.invokestatic 15, 3) := by decide +kernel
theorem dX3_byColumns_23 : decode cX3_byColumns 23 = .ok (.iadd, 1) := by decide +kernel
theorem dX3_byColumns_24 : decode cX3_byColumns 24 = .ok (.istore_n 1, 1) := by decide +kernel
theorem dX3_byColumns_25 : decode cX3_byColumns 25 = .ok (.iinc 3 4, 3) := by decide +kernel
theorem dX3_byColumns_28 : decode cX3_byColumns 28 = .ok (.goto (-17), 3) := by decide +kernel
theorem dX3_byColumns_31 : decode cX3_byColumns 31 = .ok (.iinc 2 1, 3) := by decide +kernel
theorem dX3_byColumns_34 : decode cX3_byColumns 34 = .ok (.goto (-30), 3) := by decide +kernel
theorem dX3_byColumns_37 : decode cX3_byColumns 37 = .ok (.iload_n 1, 1) := by decide +kernel
theorem dX3_byColumns_38 : decode cX3_byColumns 38 = .ok (.aload_n 0, 1) := by decide +kernel
theorem dX3_byColumns_39 : decode cX3_byColumns 39 = .ok (.getfield 21, 3) := by decide +kernel
theorem dX3_byColumns_42 : decode cX3_byColumns 42 = .ok (.aload_n 0, 1) := by decide +kernel
theorem dX3_byColumns_43 : decode cX3_byColumns 43 = .ok (.invokestatic 25, 3) := by decide +kernel
theorem dX3_byColumns_46 : decode cX3_byColumns 46 = .ok (.isub, 1) := by decide +kernel
theorem dX3_byColumns_47 : decode cX3_byColumns 47 = .ok (.ireturn, 1) := by decide +kernel
theorem dX3_countTooRichAbove_0 : decode cX3_countTooRichAbove 0 = .ok (.iconst 0, 1) := by decide +kernel
theorem dX3_countTooRichAbove_1 : decode cX3_countTooRichAbove 1 = .ok (.istore_n 2, 1) := by decide +kernel
theorem dX3_countTooRichAbove_2 : decode cX3_countTooRichAbove 2 = .ok (.iload_n 1, 1) := by decide +kernel
theorem dX3_countTooRichAbove_3 : decode cX3_countTooRichAbove 3 = .ok (.iconst 4, 1) := by decide +kernel
theorem dX3_countTooRichAbove_4 : decode cX3_countTooRichAbove 4 = .ok (.iadd, 1) := by decide +kernel
theorem dX3_countTooRichAbove_5 : decode cX3_countTooRichAbove 5 = .ok (.istore_n 3, 1) := by decide +kernel
theorem dX3_countTooRichAbove_6 : decode cX3_countTooRichAbove 6 = .ok (.iload_n 3, 1) := by decide +kernel
theorem dX3_countTooRichAbove_7 : decode cX3_countTooRichAbove 7 = .ok (.bipush 12, 2) := by decide +kernel
theorem dX3_countTooRichAbove_9 : decode cX3_countTooRichAbove 9 = .ok (.if_icmp .ge 27, 3) := by decide +kernel
theorem dX3_countTooRichAbove_12 : decode cX3_countTooRichAbove 12 = .ok (.aload_n 0, 1) := by decide +kernel
theorem dX3_countTooRichAbove_13 : decode cX3_countTooRichAbove 13 = .ok (.getfield 29, 3) := by decide +kernel
theorem dX3_countTooRichAbove_16 : decode cX3_countTooRichAbove 16 = .ok (.iload_n 3, 1) := by decide +kernel
theorem dX3_countTooRichAbove_17 : decode cX3_countTooRichAbove 17 = .ok (.iaload, 1) := by decide +kernel
theorem dX3_countTooRichAbove_18 : decode cX3_countTooRichAbove 18 = .ok (.aload_n 0, 1) := by decide +kernel
theorem dX3_countTooRichAbove_19 : decode cX3_countTooRichAbove 19 = .ok (.getfield 33, 3) := by decide +kernel
theorem dX3_countTooRichAbove_22 : decode cX3_countTooRichAbove 22 = .ok (.iload_n 1, 1) := by decide +kernel
theorem dX3_countTooRichAbove_23 : decode cX3_countTooRichAbove 23 = .ok (.iaload, 1) := by decide +kernel
theorem dX3_countTooRichAbove_24 : decode cX3_countTooRichAbove 24 = .ok (.if_icmp .le 6, 3) := by decide +kernel
theorem dX3_countTooRichAbove_27 : decode cX3_countTooRichAbove 27 = .ok (.iinc 2 1, 3) := by decide +kernel
theorem dX3_countTooRichAbove_30 : decode cX3_countTooRichAbove 30 = .ok (.iinc 3 4, 3) := by decide +kernel
theorem dX3_countTooRichAbove_33 : decode cX3_countTooRichAbove 33 = .ok (.goto (-27), 3) := by decide +kernel
theorem dX3_countTooRichAbove_36 : decode cX3_countTooRichAbove 36 = .ok (.iload_n 2, 1) := by decide +kernel
theorem dX3_countTooRichAbove_37 : decode cX3_countTooRichAbove 37 = .ok (.ireturn, 1) := by decide +kernel
theorem dX3_countTruces_0 : decode cX3_countTruces 0 = .ok (.iconst 0, 1) := by decide +kernel
theorem dX3_countTruces_1 : decode cX3_countTruces 1 = .ok (.istore_n 2, 1) := by decide +kernel
theorem dX3_countTruces_2 : decode cX3_countTruces 2 = .ok (.iconst 0, 1) := by decide +kernel
theorem dX3_countTruces_3 : decode cX3_countTruces 3 = .ok (.istore_n 3, 1) := by decide +kernel
theorem dX3_countTruces_4 : decode cX3_countTruces 4 = .ok (.iload_n 3, 1) := by decide +kernel
theorem dX3_countTruces_5 : decode cX3_countTruces 5 = .ok (.aload_n 0, 1) := by decide +kernel
theorem dX3_countTruces_6 : decode cX3_countTruces 6 = .ok (.getfield 36, 3) := by decide +kernel
theorem dX3_countTruces_9 : decode cX3_countTruces 9 = .ok (.if_icmp .ge 56, 3) := by decide +kernel
theorem dX3_countTruces_12 : decode cX3_countTruces 12 = .ok (.aload_n 0, 1) := by decide +kernel
theorem dX3_countTruces_13 : decode cX3_countTruces 13 = .ok (.getfield 42, 3) := by decide +kernel
theorem dX3_countTruces_16 : decode cX3_countTruces 16 = .ok (.iload_n 3, 1) := by decide +kernel
theorem dX3_countTruces_17 : decode cX3_countTruces 17 = .ok (.iaload, 1) := by decide +kernel
theorem dX3_countTruces_18 : decode cX3_countTruces 18 = .ok (.istore 4, 2) := by decide +kernel
theorem dX3_countTruces_20 : decode cX3_countTruces 20 = .ok (.aload_n 0, 1) := by decide +kernel
theorem dX3_countTruces_21 : decode cX3_countTruces 21 = .ok (.getfield 45, 3) := by decide +kernel
theorem dX3_countTruces_24 : decode cX3_countTruces 24 = .ok (.iload_n 3, 1) := by decide +kernel
theorem dX3_countTruces_25 : decode cX3_countTruces 25 = .ok (.iaload, 1) := by decide +kernel
theorem dX3_countTruces_26 : decode cX3_countTruces 26 = .ok (.istore 5, 2) := by decide +kernel
theorem dX3_countTruces_28 : decode cX3_countTruces 28 = .ok (.iload 4, 2) := by decide +kernel
theorem dX3_countTruces_30 : decode cX3_countTruces 30 = .ok (.iconst 4, 1) := by decide +kernel
theorem dX3_countTruces_31 : decode cX3_countTruces 31 = .ok (.irem, 1) := by decide +kernel
theorem dX3_countTruces_32 : decode cX3_countTruces 32 = .ok (.iload 5, 2) := by decide +kernel
theorem dX3_countTruces_34 : decode cX3_countTruces 34 = .ok (.iconst 4, 1) := by decide +kernel
theorem dX3_countTruces_35 : decode cX3_countTruces 35 = .ok (.irem, 1) := by decide +kernel
theorem dX3_countTruces_36 : decode cX3_countTruces 36 = .ok (.if_icmp .ne 23, 3) := by decide +kernel
theorem dX3_countTruces_39 : decode cX3_countTruces 39 = .ok (.aload_n 1, 1) := by decide +kernel
theorem dX3_countTruces_40 : decode cX3_countTruces 40 = .ok (.getfield 29, 3) := by decide +kernel
theorem dX3_countTruces_43 : decode cX3_countTruces 43 = .ok (.iload 5, 2) := by decide +kernel
theorem dX3_countTruces_45 : decode cX3_countTruces 45 = .ok (.iaload, 1) := by decide +kernel
theorem dX3_countTruces_46 : decode cX3_countTruces 46 = .ok (.aload_n 1, 1) := by decide +kernel
theorem dX3_countTruces_47 : decode cX3_countTruces 47 = .ok (.getfield 33, 3) := by decide +kernel
theorem dX3_countTruces_50 : decode cX3_countTruces 50 = .ok (.iload 4, 2) := by decide +kernel
theorem dX3_countTruces_52 : decode cX3_countTruces 52 = .ok (.iaload, 1) := by decide +kernel
theorem dX3_countTruces_53 : decode cX3_countTruces 53 = .ok (.if_icmp .le 6, 3) := by decide +kernel
theorem dX3_countTruces_56 : decode cX3_countTruces 56 = .ok (.iinc 2 1, 3) := by decide +kernel
theorem dX3_countTruces_59 : decode cX3_countTruces 59 = .ok (.iinc 3 1, 3) := by decide +kernel
theorem dX3_countTruces_62 : decode cX3_countTruces 62 = .ok (.goto (-58), 3) := by decide +kernel
theorem dX3_countTruces_65 : decode cX3_countTruces 65 = .ok (.iload_n 2, 1) := by decide +kernel
theorem dX3_countTruces_66 : decode cX3_countTruces 66 = .ok (.ireturn, 1) := by decide +kernel
set_option maxRecDepth 20000 in
theorem ggX3_excessByTolerance_X3_leastToleranceBelow : GoodIn wsX3_excessByTolerance wsX3_leastToleranceBelow := goodIn_r _ [9, 10, 11, 12, 13, 4, 14, 15, 16, 17, 18, 19, 20, 21, 22, 23, 24, 25, 26, 27, 28, 29, 30, 31, 32, 33, 34, 35, 36, 37] (by decide +kernel) (by decide +kernel)
set_option maxRecDepth 20000 in
theorem gX3_excessByTolerance_X3_leastToleranceBelow : GoodIn wsX3_excessByTolerance (va_wsS RX3 48 yX3_leastToleranceBelow wsX3_leastToleranceBelow) := goodIn_app (goodIn_of _ (by decide +kernel)) ggX3_excessByTolerance_X3_leastToleranceBelow
theorem dX3_excessByTolerance_0 : decode cX3_excessByTolerance 0 = .ok (.iconst 0, 1) := by decide +kernel
theorem dX3_excessByTolerance_1 : decode cX3_excessByTolerance 1 = .ok (.istore_n 1, 1) := by decide +kernel
theorem dX3_excessByTolerance_2 : decode cX3_excessByTolerance 2 = .ok (.iconst 0, 1) := by decide +kernel
theorem dX3_excessByTolerance_3 : decode cX3_excessByTolerance 3 = .ok (.istore_n 2, 1) := by decide +kernel
theorem dX3_excessByTolerance_4 : decode cX3_excessByTolerance 4 = .ok (.iload_n 2, 1) := by decide +kernel
theorem dX3_excessByTolerance_5 : decode cX3_excessByTolerance 5 = .ok (.bipush 12, 2) := by decide +kernel
theorem dX3_excessByTolerance_7 : decode cX3_excessByTolerance 7 = .ok (.if_icmp .ge 28, 3) := by decide +kernel
theorem dX3_excessByTolerance_10 : decode cX3_excessByTolerance 10 = .ok (.iload_n 1, 1) := by decide +kernel
theorem dX3_excessByTolerance_11 : decode cX3_excessByTolerance 11 = .ok (.iconst 0, 1) := by decide +kernel
theorem dX3_excessByTolerance_12 : decode cX3_excessByTolerance 12 = .ok (.aload_n 0, 1) := by decide +kernel
theorem dX3_excessByTolerance_13 : decode cX3_excessByTolerance 13 = .ok (.getfield 29, 3) := by decide +kernel
theorem dX3_excessByTolerance_16 : decode cX3_excessByTolerance 16 = .ok (.iload_n 2, 1) := by decide +kernel
theorem dX3_excessByTolerance_17 : decode cX3_excessByTolerance 17 = .ok (.iaload, 1) := by decide +kernel
theorem dX3_excessByTolerance_18 : decode cX3_excessByTolerance 18 = .ok (.aload_n 0, 1) := by decide +kernel
theorem dX3_excessByTolerance_19 : decode cX3_excessByTolerance 19 = .ok (.iload_n 2, 1) := by decide +kernel
theorem dX3_excessByTolerance_20 : decode cX3_excessByTolerance 20 = .ok (.invokestatic 48, 3) := by decide +kernel
theorem dX3_excessByTolerance_23 : decode cX3_excessByTolerance 23 = .ok (.isub, 1) := by decide +kernel
theorem dX3_excessByTolerance_24 : decode cX3_excessByTolerance 24 = .ok (.invokestatic 51, 3) := by decide +kernel
theorem dX3_excessByTolerance_27 : decode cX3_excessByTolerance 27 = .ok (.iadd, 1) := by decide +kernel
theorem dX3_excessByTolerance_28 : decode cX3_excessByTolerance 28 = .ok (.istore_n 1, 1) := by decide +kernel
theorem dX3_excessByTolerance_29 : decode cX3_excessByTolerance 29 = .ok (.iinc 2 1, 3) := by decide +kernel
theorem dX3_excessByTolerance_32 : decode cX3_excessByTolerance 32 = .ok (.goto (-28), 3) := by decide +kernel
theorem dX3_excessByTolerance_35 : decode cX3_excessByTolerance 35 = .ok (.iload_n 1, 1) := by decide +kernel
theorem dX3_excessByTolerance_36 : decode cX3_excessByTolerance 36 = .ok (.ireturn, 1) := by decide +kernel
set_option maxRecDepth 20000 in
theorem ggX3_leastToleranceBelow_X7_between : GoodIn wsX3_leastToleranceBelow wsX7_between := goodIn_r _ [11, 12, 13, 14, 25, 26, 27, 28, 29] (by decide +kernel) (by decide +kernel)
set_option maxRecDepth 20000 in
theorem gX3_leastToleranceBelow_X7_between : GoodIn wsX3_leastToleranceBelow (wsV RX3 57 RX7 yX7_between wsX7_between) := goodIn_app (goodIn_of _ (by decide +kernel)) ggX3_leastToleranceBelow_X7_between
theorem dX3_leastToleranceBelow_0 : decode cX3_leastToleranceBelow 0 = .ok (.bipush 9, 2) := by decide +kernel
theorem dX3_leastToleranceBelow_2 : decode cX3_leastToleranceBelow 2 = .ok (.istore_n 2, 1) := by decide +kernel
theorem dX3_leastToleranceBelow_3 : decode cX3_leastToleranceBelow 3 = .ok (.iload_n 1, 1) := by decide +kernel
theorem dX3_leastToleranceBelow_4 : decode cX3_leastToleranceBelow 4 = .ok (.iconst 4, 1) := by decide +kernel
theorem dX3_leastToleranceBelow_5 : decode cX3_leastToleranceBelow 5 = .ok (.isub, 1) := by decide +kernel
theorem dX3_leastToleranceBelow_6 : decode cX3_leastToleranceBelow 6 = .ok (.istore_n 3, 1) := by decide +kernel
theorem dX3_leastToleranceBelow_7 : decode cX3_leastToleranceBelow 7 = .ok (.iload_n 3, 1) := by decide +kernel
theorem dX3_leastToleranceBelow_8 : decode cX3_leastToleranceBelow 8 = .ok (.ifCond .lt 32, 3) := by decide +kernel
theorem dX3_leastToleranceBelow_11 : decode cX3_leastToleranceBelow 11 = .ok (.aload_n 0, 1) := by decide +kernel
theorem dX3_leastToleranceBelow_12 : decode cX3_leastToleranceBelow 12 = .ok (.getfield 21, 3) := by decide +kernel
theorem dX3_leastToleranceBelow_15 : decode cX3_leastToleranceBelow 15 = .ok (.iload_n 3, 1) := by decide +kernel
theorem dX3_leastToleranceBelow_16 : decode cX3_leastToleranceBelow 16 = .ok (.iload_n 1, 1) := by decide +kernel
theorem dX3_leastToleranceBelow_17 : decode cX3_leastToleranceBelow 17 = .ok (.invokevirtual 57, 3) := by decide +kernel
theorem dX3_leastToleranceBelow_20 : decode cX3_leastToleranceBelow 20 = .ok (.ifCond .ge 14, 3) := by decide +kernel
theorem dX3_leastToleranceBelow_23 : decode cX3_leastToleranceBelow 23 = .ok (.iload_n 2, 1) := by decide +kernel
theorem dX3_leastToleranceBelow_24 : decode cX3_leastToleranceBelow 24 = .ok (.aload_n 0, 1) := by decide +kernel
theorem dX3_leastToleranceBelow_25 : decode cX3_leastToleranceBelow 25 = .ok (.getfield 33, 3) := by decide +kernel
theorem dX3_leastToleranceBelow_28 : decode cX3_leastToleranceBelow 28 = .ok (.iload_n 3, 1) := by decide +kernel
theorem dX3_leastToleranceBelow_29 : decode cX3_leastToleranceBelow 29 = .ok (.iaload, 1) := by decide +kernel
theorem dX3_leastToleranceBelow_30 : decode cX3_leastToleranceBelow 30 = .ok (.invokestatic 60, 3) := by decide +kernel
theorem dX3_leastToleranceBelow_33 : decode cX3_leastToleranceBelow 33 = .ok (.istore_n 2, 1) := by decide +kernel
theorem dX3_leastToleranceBelow_34 : decode cX3_leastToleranceBelow 34 = .ok (.iinc 3 (-4), 3) := by decide +kernel
theorem dX3_leastToleranceBelow_37 : decode cX3_leastToleranceBelow 37 = .ok (.goto (-30), 3) := by decide +kernel
theorem dX3_leastToleranceBelow_40 : decode cX3_leastToleranceBelow 40 = .ok (.iload_n 2, 1) := by decide +kernel
theorem dX3_leastToleranceBelow_41 : decode cX3_leastToleranceBelow 41 = .ok (.ireturn, 1) := by decide +kernel
set_option maxRecDepth 20000 in
theorem ggX3_takeExcess_X3_firstTooRich : GoodIn wsX3_takeExcess wsX3_firstTooRich := goodIn_r _ [5, 6, 7, 8, 9, 10, 11, 12, 13, 14, 15, 16, 17, 18, 19, 20, 21, 22, 23, 24, 25, 26, 27, 28, 29, 30, 31, 32, 33, 34, 35, 36, 37, 38, 39, 40, 41, 42, 43] (by decide +kernel) (by decide +kernel)
set_option maxRecDepth 20000 in
theorem gX3_takeExcess_X3_firstTooRich : GoodIn wsX3_takeExcess (va_wsS RX3 63 yX3_firstTooRich wsX3_firstTooRich) := goodIn_app (goodIn_of _ (by decide +kernel)) ggX3_takeExcess_X3_firstTooRich
theorem dX3_takeExcess_0 : decode cX3_takeExcess 0 = .ok (.iconst 0, 1) := by decide +kernel
theorem dX3_takeExcess_1 : decode cX3_takeExcess 1 = .ok (.istore_n 1, 1) := by decide +kernel
theorem dX3_takeExcess_2 : decode cX3_takeExcess 2 = .ok (.iconst 0, 1) := by decide +kernel
theorem dX3_takeExcess_3 : decode cX3_takeExcess 3 = .ok (.istore_n 2, 1) := by decide +kernel
theorem dX3_takeExcess_4 : decode cX3_takeExcess 4 = .ok (.iload_n 2, 1) := by decide +kernel
theorem dX3_takeExcess_5 : decode cX3_takeExcess 5 = .ok (.bipush 108, 2) := by decide +kernel
theorem dX3_takeExcess_7 : decode cX3_takeExcess 7 = .ok (.if_icmp .ge 33, 3) := by decide +kernel
theorem dX3_takeExcess_10 : decode cX3_takeExcess 10 = .ok (.aload_n 0, 1) := by decide +kernel
theorem dX3_takeExcess_11 : decode cX3_takeExcess 11 = .ok (.invokestatic 63, 3) := by decide +kernel
theorem dX3_takeExcess_14 : decode cX3_takeExcess 14 = .ok (.istore_n 3, 1) := by decide +kernel
theorem dX3_takeExcess_15 : decode cX3_takeExcess 15 = .ok (.iload_n 3, 1) := by decide +kernel
theorem dX3_takeExcess_16 : decode cX3_takeExcess 16 = .ok (.ifCond .ge 5, 3) := by decide +kernel
theorem dX3_takeExcess_19 : decode cX3_takeExcess 19 = .ok (.iload_n 1, 1) := by decide +kernel
theorem dX3_takeExcess_20 : decode cX3_takeExcess 20 = .ok (.ireturn, 1) := by decide +kernel
theorem dX3_takeExcess_21 : decode cX3_takeExcess 21 = .ok (.aload_n 0, 1) := by decide +kernel
theorem dX3_takeExcess_22 : decode cX3_takeExcess 22 = .ok (.getfield 29, 3) := by decide +kernel
theorem dX3_takeExcess_25 : decode cX3_takeExcess 25 = .ok (.iload_n 3, 1) := by decide +kernel
theorem dX3_takeExcess_26 : decode cX3_takeExcess 26 = .ok (.dup2, 1) := by decide +kernel
theorem dX3_takeExcess_27 : decode cX3_takeExcess 27 = .ok (.iaload, 1) := by decide +kernel
theorem dX3_takeExcess_28 : decode cX3_takeExcess 28 = .ok (.iconst 1, 1) := by decide +kernel
theorem dX3_takeExcess_29 : decode cX3_takeExcess 29 = .ok (.isub, 1) := by decide +kernel
theorem dX3_takeExcess_30 : decode cX3_takeExcess 30 = .ok (.iastore, 1) := by decide +kernel
theorem dX3_takeExcess_31 : decode cX3_takeExcess 31 = .ok (.iinc 1 1, 3) := by decide +kernel
theorem dX3_takeExcess_34 : decode cX3_takeExcess 34 = .ok (.iinc 2 1, 3) := by decide +kernel
theorem dX3_takeExcess_37 : decode cX3_takeExcess 37 = .ok (.goto (-33), 3) := by decide +kernel
theorem dX3_takeExcess_40 : decode cX3_takeExcess 40 = .ok (.iload_n 1, 1) := by decide +kernel
theorem dX3_takeExcess_41 : decode cX3_takeExcess 41 = .ok (.ireturn, 1) := by decide +kernel
set_option maxRecDepth 20000 in
theorem ggX3_firstTooRich_X6_isFeud : GoodIn wsX3_firstTooRich wsX6_isFeud := goodIn_r _ [5, 6, 7, 8, 9, 10, 11, 12, 13, 14, 15, 16, 17, 18, 19, 20, 21, 22, 23, 24, 25, 26, 27, 28, 29, 30, 31, 32, 33, 34, 35, 36, 37, 38] (by decide +kernel) (by decide +kernel)
set_option maxRecDepth 20000 in
theorem gX3_firstTooRich_X6_isFeud : GoodIn wsX3_firstTooRich (wsV RX3 9 RX6 yX6_isFeud wsX6_isFeud) := goodIn_app (goodIn_of _ (by decide +kernel)) ggX3_firstTooRich_X6_isFeud
theorem dX3_firstTooRich_0 : decode cX3_firstTooRich 0 = .ok (.iconst 0, 1) := by decide +kernel
theorem dX3_firstTooRich_1 : decode cX3_firstTooRich 1 = .ok (.istore_n 1, 1) := by decide +kernel
theorem dX3_firstTooRich_2 : decode cX3_firstTooRich 2 = .ok (.iload_n 1, 1) := by decide +kernel
theorem dX3_firstTooRich_3 : decode cX3_firstTooRich 3 = .ok (.bipush 12, 2) := by decide +kernel
theorem dX3_firstTooRich_5 : decode cX3_firstTooRich 5 = .ok (.if_icmp .ge 36, 3) := by decide +kernel
theorem dX3_firstTooRich_8 : decode cX3_firstTooRich 8 = .ok (.iload_n 1, 1) := by decide +kernel
theorem dX3_firstTooRich_9 : decode cX3_firstTooRich 9 = .ok (.iconst 4, 1) := by decide +kernel
theorem dX3_firstTooRich_10 : decode cX3_firstTooRich 10 = .ok (.iadd, 1) := by decide +kernel
theorem dX3_firstTooRich_11 : decode cX3_firstTooRich 11 = .ok (.istore_n 2, 1) := by decide +kernel
theorem dX3_firstTooRich_12 : decode cX3_firstTooRich 12 = .ok (.iload_n 2, 1) := by decide +kernel
theorem dX3_firstTooRich_13 : decode cX3_firstTooRich 13 = .ok (.bipush 12, 2) := by decide +kernel
theorem dX3_firstTooRich_15 : decode cX3_firstTooRich 15 = .ok (.if_icmp .ge 20, 3) := by decide +kernel
theorem dX3_firstTooRich_18 : decode cX3_firstTooRich 18 = .ok (.aload_n 0, 1) := by decide +kernel
theorem dX3_firstTooRich_19 : decode cX3_firstTooRich 19 = .ok (.iload_n 1, 1) := by decide +kernel
theorem dX3_firstTooRich_20 : decode cX3_firstTooRich 20 = .ok (.iload_n 2, 1) := by decide +kernel
theorem dX3_firstTooRich_21 : decode cX3_firstTooRich 21 = .ok (.invokevirtual 9, 3) := by decide +kernel
theorem dX3_firstTooRich_24 : decode cX3_firstTooRich 24 = .ok (.ifCond .eq 5, 3) := by decide +kernel
theorem dX3_firstTooRich_27 : decode cX3_firstTooRich 27 = .ok (.iload_n 2, 1) := by decide +kernel
theorem dX3_firstTooRich_28 : decode cX3_firstTooRich 28 = .ok (.ireturn, 1) := by decide +kernel
theorem dX3_firstTooRich_29 : decode cX3_firstTooRich 29 = .ok (.iinc 2 4, 3) := by decide +kernel
theorem dX3_firstTooRich_32 : decode cX3_firstTooRich 32 = .ok (.goto (-20), 3) := by decide +kernel
theorem dX3_firstTooRich_35 : decode cX3_firstTooRich 35 = .ok (.iinc 1 1, 3) := by decide +kernel
theorem dX3_firstTooRich_38 : decode cX3_firstTooRich 38 = .ok (.goto (-36), 3) := by decide +kernel
theorem dX3_firstTooRich_41 : decode cX3_firstTooRich 41 = .ok (.iconst (-1), 1) := by decide +kernel
theorem dX3_firstTooRich_42 : decode cX3_firstTooRich 42 = .ok (.ireturn, 1) := by decide +kernel
theorem dX4_init_0 : decode cX4_init 0 = .ok (.aload_n 0, 1) := by decide +kernel
theorem dX4_init_1 : decode cX4_init 1 = .ok (.invokespecial 3, 3) := by decide +kernel
theorem dX4_init_4 : decode cX4_init 4 = .ok (.aload_n 0, 1) := by decide +kernel
theorem dX4_init_5 : decode cX4_init 5 = .ok (.sipush 144, 3) := by decide +kernel
theorem dX4_init_8 : decode cX4_init 8 = .ok (.newarray .int, 2) := by decide +kernel
theorem dX4_init_10 : decode cX4_init 10 = .ok (.putfield 9, 3) := by decide +kernel
theorem dX4_init_13 : decode cX4_init 13 = .ok (.aload_n 0, 1) := by decide +kernel
theorem dX4_init_14 : decode cX4_init 14 = .ok (.bipush 12, 2) := by decide +kernel
theorem dX4_init_16 : decode cX4_init 16 = .ok (.newarray .int, 2) := by decide +kernel
theorem dX4_init_18 : decode cX4_init 18 = .ok (.putfield 15, 3) := by decide +kernel
theorem dX4_init_21 : decode cX4_init 21 = .ok (.return_, 1) := by decide +kernel
set_option maxRecDepth 20000 in
theorem ggX4_becomeNew_J7_fill_53178 : GoodIn wsX4_becomeNew wsJ7_fill_53178 := goodIn_r _ [6] (by decide +kernel) (by decide +kernel)
set_option maxRecDepth 20000 in
theorem gX4_becomeNew_J7_fill_53178 : GoodIn wsX4_becomeNew (va_wsS RX4 18 yJ7_fill_53178 wsJ7_fill_53178) := goodIn_app (goodIn_of _ (by decide +kernel)) ggX4_becomeNew_J7_fill_53178
theorem dX4_becomeNew_0 : decode cX4_becomeNew 0 = .ok (.aload_n 0, 1) := by decide +kernel
theorem dX4_becomeNew_1 : decode cX4_becomeNew 1 = .ok (.getfield 9, 3) := by decide +kernel
theorem dX4_becomeNew_4 : decode cX4_becomeNew 4 = .ok (.iconst 0, 1) := by decide +kernel
theorem dX4_becomeNew_5 : decode cX4_becomeNew 5 = .ok (.invokestatic 18, 3) := by decide +kernel
theorem dX4_becomeNew_8 : decode cX4_becomeNew 8 = .ok (.aload_n 0, 1) := by decide +kernel
theorem dX4_becomeNew_9 : decode cX4_becomeNew 9 = .ok (.getfield 15, 3) := by decide +kernel
theorem dX4_becomeNew_12 : decode cX4_becomeNew 12 = .ok (.iconst 0, 1) := by decide +kernel
theorem dX4_becomeNew_13 : decode cX4_becomeNew 13 = .ok (.invokestatic 18, 3) := by decide +kernel
theorem dX4_becomeNew_16 : decode cX4_becomeNew 16 = .ok (.return_, 1) := by decide +kernel
theorem dX4_take_0 : decode cX4_take 0 = .ok (.aload_n 1, 1) := by decide +kernel
theorem dX4_take_1 : decode cX4_take 1 = .ok (.getfield 9, 3) := by decide +kernel
theorem dX4_take_4 : decode cX4_take 4 = .ok (.iconst 0, 1) := by decide +kernel
theorem dX4_take_5 : decode cX4_take 5 = .ok (.aload_n 0, 1) := by decide +kernel
theorem dX4_take_6 : decode cX4_take 6 = .ok (.getfield 9, 3) := by decide +kernel
theorem dX4_take_9 : decode cX4_take 9 = .ok (.iconst 0, 1) := by decide +kernel
theorem dX4_take_10 : decode cX4_take 10 = .ok (.sipush 144, 3) := by decide +kernel
theorem dX4_take_13 : decode cX4_take 13 = .ok (.invokestatic 24, 3) := by decide +kernel
theorem dX4_take_16 : decode cX4_take 16 = .ok (.aload_n 1, 1) := by decide +kernel
theorem dX4_take_17 : decode cX4_take 17 = .ok (.getfield 15, 3) := by decide +kernel
theorem dX4_take_20 : decode cX4_take 20 = .ok (.iconst 0, 1) := by decide +kernel
theorem dX4_take_21 : decode cX4_take 21 = .ok (.aload_n 0, 1) := by decide +kernel
theorem dX4_take_22 : decode cX4_take 22 = .ok (.getfield 15, 3) := by decide +kernel
theorem dX4_take_25 : decode cX4_take 25 = .ok (.iconst 0, 1) := by decide +kernel
theorem dX4_take_26 : decode cX4_take 26 = .ok (.bipush 12, 2) := by decide +kernel
theorem dX4_take_28 : decode cX4_take 28 = .ok (.invokestatic 24, 3) := by decide +kernel
theorem dX4_take_31 : decode cX4_take 31 = .ok (.return_, 1) := by decide +kernel
theorem dX4_countOf_0 : decode cX4_countOf 0 = .ok (.aload_n 0, 1) := by decide +kernel
theorem dX4_countOf_1 : decode cX4_countOf 1 = .ok (.getfield 9, 3) := by decide +kernel
theorem dX4_countOf_4 : decode cX4_countOf 4 = .ok (.iload_n 1, 1) := by decide +kernel
theorem dX4_countOf_5 : decode cX4_countOf 5 = .ok (.bipush 12, 2) := by decide +kernel
theorem dX4_countOf_7 : decode cX4_countOf 7 = .ok (.imul, 1) := by decide +kernel
theorem dX4_countOf_8 : decode cX4_countOf 8 = .ok (.iload_n 2, 1) := by decide +kernel
theorem dX4_countOf_9 : decode cX4_countOf 9 = .ok (.iadd, 1) := by decide +kernel
theorem dX4_countOf_10 : decode cX4_countOf 10 = .ok (.iaload, 1) := by decide +kernel
theorem dX4_countOf_11 : decode cX4_countOf 11 = .ok (.ireturn, 1) := by decide +kernel
theorem dX4_isToday_0 : decode cX4_isToday 0 = .ok (.aload_n 0, 1) := by decide +kernel
theorem dX4_isToday_1 : decode cX4_isToday 1 = .ok (.getfield 15, 3) := by decide +kernel
theorem dX4_isToday_4 : decode cX4_isToday 4 = .ok (.iload_n 1, 1) := by decide +kernel
theorem dX4_isToday_5 : decode cX4_isToday 5 = .ok (.iaload, 1) := by decide +kernel
theorem dX4_isToday_6 : decode cX4_isToday 6 = .ok (.iload_n 2, 1) := by decide +kernel
theorem dX4_isToday_7 : decode cX4_isToday 7 = .ok (.ishr, 1) := by decide +kernel
theorem dX4_isToday_8 : decode cX4_isToday 8 = .ok (.iconst 1, 1) := by decide +kernel
theorem dX4_isToday_9 : decode cX4_isToday 9 = .ok (.iand, 1) := by decide +kernel
theorem dX4_isToday_10 : decode cX4_isToday 10 = .ok (.iconst 1, 1) := by decide +kernel
theorem dX4_isToday_11 : decode cX4_isToday 11 = .ok (.if_icmp .ne 7, 3) := by decide +kernel
theorem dX4_isToday_14 : decode cX4_isToday 14 = .ok (.iconst 1, 1) := by decide +kernel
theorem dX4_isToday_15 : decode cX4_isToday 15 = .ok (.goto 4, 3) := by decide +kernel
theorem dX4_isToday_18 : decode cX4_isToday 18 = .ok (.iconst 0, 1) := by decide +kernel
theorem dX4_isToday_19 : decode cX4_isToday 19 = .ok (.ireturn, 1) := by decide +kernel
set_option maxRecDepth 20000 in
theorem ggX4_add_X4_countOf : GoodIn wsX4_add wsX4_countOf := goodIn_r _ [7, 1, 8, 9] (by decide +kernel) (by decide +kernel)
set_option maxRecDepth 20000 in
theorem gX4_add_X4_countOf : GoodIn wsX4_add (wsV RX4 30 RX4 yX4_countOf wsX4_countOf) := goodIn_app (goodIn_of _ (by decide +kernel)) ggX4_add_X4_countOf
theorem dX4_add_0 : decode cX4_add 0 = .ok (.aload_n 0, 1) := by decide +kernel
theorem dX4_add_1 : decode cX4_add 1 = .ok (.getfield 9, 3) := by decide +kernel
theorem dX4_add_4 : decode cX4_add 4 = .ok (.iload_n 1, 1) := by decide +kernel
theorem dX4_add_5 : decode cX4_add 5 = .ok (.bipush 12, 2) := by decide +kernel
theorem dX4_add_7 : decode cX4_add 7 = .ok (.imul, 1) := by decide +kernel
theorem dX4_add_8 : decode cX4_add 8 = .ok (.iload_n 2, 1) := by decide +kernel
theorem dX4_add_9 : decode cX4_add 9 = .ok (.iadd, 1) := by decide +kernel
theorem dX4_add_10 : decode cX4_add 10 = .ok (.dup2, 1) := by decide +kernel
theorem dX4_add_11 : decode cX4_add 11 = .ok (.iaload, 1) := by decide +kernel
theorem dX4_add_12 : decode cX4_add 12 = .ok (.iconst 1, 1) := by decide +kernel
theorem dX4_add_13 : decode cX4_add 13 = .ok (.iadd, 1) := by decide +kernel
theorem dX4_add_14 : decode cX4_add 14 = .ok (.iastore, 1) := by decide +kernel
theorem dX4_add_15 : decode cX4_add 15 = .ok (.aload_n 0, 1) := by decide +kernel
theorem dX4_add_16 : decode cX4_add 16 = .ok (.getfield 15, 3) := by decide +kernel
theorem dX4_add_19 : decode cX4_add 19 = .ok (.iload_n 1, 1) := by decide +kernel
theorem dX4_add_20 : decode cX4_add 20 = .ok (.dup2, 1) := by decide +kernel
theorem dX4_add_21 : decode cX4_add 21 = .ok (.iaload, 1) := by decide +kernel
theorem dX4_add_22 : decode cX4_add 22 = .ok (.iconst 1, 1) := by decide +kernel
theorem dX4_add_23 : decode cX4_add 23 = .ok (.iload_n 2, 1) := by decide +kernel
theorem dX4_add_24 : decode cX4_add 24 = .ok (.ishl, 1) := by decide +kernel
theorem dX4_add_25 : decode cX4_add 25 = .ok (.ior, 1) := by decide +kernel
theorem dX4_add_26 : decode cX4_add 26 = .ok (.iastore, 1) := by decide +kernel
theorem dX4_add_27 : decode cX4_add 27 = .ok (.aload_n 0, 1) := by decide +kernel
theorem dX4_add_28 : decode cX4_add 28 = .ok (.iload_n 1, 1) := by decide +kernel
theorem dX4_add_29 : decode cX4_add 29 = .ok (.iload_n 2, 1) := by decide +kernel
theorem dX4_add_30 : decode cX4_add 30 = .ok (.invokevirtual 30, 3) := by decide +kernel
theorem dX4_add_33 : decode cX4_add 33 = .ok (.ireturn, 1) := by decide +kernel
set_option maxRecDepth 20000 in
theorem ggX4_passDay_J7_fill_53178 : GoodIn wsX4_passDay wsJ7_fill_53178 := goodIn_r _ [5] (by decide +kernel) (by decide +kernel)
set_option maxRecDepth 20000 in
theorem gX4_passDay_J7_fill_53178 : GoodIn wsX4_passDay (va_wsS RX4 18 yJ7_fill_53178 wsJ7_fill_53178) := goodIn_app (goodIn_of _ (by decide +kernel)) ggX4_passDay_J7_fill_53178
theorem dX4_passDay_0 : decode cX4_passDay 0 = .ok (.aload_n 0, 1) := by decide +kernel
theorem dX4_passDay_1 : decode cX4_passDay 1 = .ok (.getfield 15, 3) := by decide +kernel
theorem dX4_passDay_4 : decode cX4_passDay 4 = .ok (.iconst 0, 1) := by decide +kernel
theorem dX4_passDay_5 : decode cX4_passDay 5 = .ok (.invokestatic 18, 3) := by decide +kernel
theorem dX4_passDay_8 : decode cX4_passDay 8 = .ok (.return_, 1) := by decide +kernel
set_option maxRecDepth 20000 in
theorem ggX4_givenBy_X4_countOf : GoodIn wsX4_givenBy wsX4_countOf := goodIn_r _ [5, 6, 7, 8] (by decide +kernel) (by decide +kernel)
set_option maxRecDepth 20000 in
theorem gX4_givenBy_X4_countOf : GoodIn wsX4_givenBy (wsV RX4 30 RX4 yX4_countOf wsX4_countOf) := goodIn_app (goodIn_of _ (by decide +kernel)) ggX4_givenBy_X4_countOf
theorem dX4_givenBy_0 : decode cX4_givenBy 0 = .ok (.iconst 0, 1) := by decide +kernel
theorem dX4_givenBy_1 : decode cX4_givenBy 1 = .ok (.istore_n 2, 1) := by decide +kernel
theorem dX4_givenBy_2 : decode cX4_givenBy 2 = .ok (.iconst 0, 1) := by decide +kernel
theorem dX4_givenBy_3 : decode cX4_givenBy 3 = .ok (.istore_n 3, 1) := by decide +kernel
theorem dX4_givenBy_4 : decode cX4_givenBy 4 = .ok (.iload_n 3, 1) := by decide +kernel
theorem dX4_givenBy_5 : decode cX4_givenBy 5 = .ok (.bipush 12, 2) := by decide +kernel
theorem dX4_givenBy_7 : decode cX4_givenBy 7 = .ok (.if_icmp .ge 18, 3) := by decide +kernel
theorem dX4_givenBy_10 : decode cX4_givenBy 10 = .ok (.iload_n 2, 1) := by decide +kernel
theorem dX4_givenBy_11 : decode cX4_givenBy 11 = .ok (.aload_n 0, 1) := by decide +kernel
theorem dX4_givenBy_12 : decode cX4_givenBy 12 = .ok (.iload_n 1, 1) := by decide +kernel
theorem dX4_givenBy_13 : decode cX4_givenBy 13 = .ok (.iload_n 3, 1) := by decide +kernel
theorem dX4_givenBy_14 : decode cX4_givenBy 14 = .ok (.invokevirtual 30, 3) := by decide +kernel
theorem dX4_givenBy_17 : decode cX4_givenBy 17 = .ok (.iadd, 1) := by decide +kernel
theorem dX4_givenBy_18 : decode cX4_givenBy 18 = .ok (.istore_n 2, 1) := by decide +kernel
theorem dX4_givenBy_19 : decode cX4_givenBy 19 = .ok (.iinc 3 1, 3) := by decide +kernel
theorem dX4_givenBy_22 : decode cX4_givenBy 22 = .ok (.goto (-18), 3) := by decide +kernel
theorem dX4_givenBy_25 : decode cX4_givenBy 25 = .ok (.iload_n 2, 1) := by decide +kernel
theorem dX4_givenBy_26 : decode cX4_givenBy 26 = .ok (.ireturn, 1) := by decide +kernel
set_option maxRecDepth 20000 in
theorem ggX4_gotBy_X4_countOf : GoodIn wsX4_gotBy wsX4_countOf := goodIn_r _ [5, 6, 7, 8] (by decide +kernel) (by decide +kernel)
set_option maxRecDepth 20000 in
theorem gX4_gotBy_X4_countOf : GoodIn wsX4_gotBy (wsV RX4 30 RX4 yX4_countOf wsX4_countOf) := goodIn_app (goodIn_of _ (by decide +kernel)) ggX4_gotBy_X4_countOf
theorem dX4_gotBy_0 : decode cX4_gotBy 0 = .ok (.iconst 0, 1) := by decide +kernel
theorem dX4_gotBy_1 : decode cX4_gotBy 1 = .ok (.istore_n 2, 1) := by decide +kernel
theorem dX4_gotBy_2 : decode cX4_gotBy 2 = .ok (.iconst 0, 1) := by decide +kernel
theorem dX4_gotBy_3 : decode cX4_gotBy 3 = .ok (.istore_n 3, 1) := by decide +kernel
theorem dX4_gotBy_4 : decode cX4_gotBy 4 = .ok (.iload_n 3, 1) := by decide +kernel
theorem dX4_gotBy_5 : decode cX4_gotBy 5 = .ok (.bipush 12, 2) := by decide +kernel
theorem dX4_gotBy_7 : decode cX4_gotBy 7 = .ok (.if_icmp .ge 18, 3) := by decide +kernel
theorem dX4_gotBy_10 : decode cX4_gotBy 10 = .ok (.iload_n 2, 1) := by decide +kernel
theorem dX4_gotBy_11 : decode cX4_gotBy 11 = .ok (.aload_n 0, 1) := by decide +kernel
theorem dX4_gotBy_12 : decode cX4_gotBy 12 = .ok (.iload_n 3, 1) := by decide +kernel
theorem dX4_gotBy_13 : decode cX4_gotBy 13 = .ok (.iload_n 1, 1) := by decide +kernel
theorem dX4_gotBy_14 : decode cX4_gotBy 14 = .ok (.invokevirtual 30, 3) := by decide +kernel
theorem dX4_gotBy_17 : decode cX4_gotBy 17 = .ok (.iadd, 1) := by decide +kernel
theorem dX4_gotBy_18 : decode cX4_gotBy 18 = .ok (.istore_n 2, 1) := by decide +kernel
theorem dX4_gotBy_19 : decode cX4_gotBy 19 = .ok (.iinc 3 1, 3) := by decide +kernel
theorem dX4_gotBy_22 : decode cX4_gotBy 22 = .ok (.goto (-18), 3) := by decide +kernel
theorem dX4_gotBy_25 : decode cX4_gotBy 25 = .ok (.iload_n 2, 1) := by decide +kernel
theorem dX4_gotBy_26 : decode cX4_gotBy 26 = .ok (.ireturn, 1) := by decide +kernel
set_option maxRecDepth 20000 in
theorem ggX4_sumGiven_X4_givenBy : GoodIn wsX4_sumGiven wsX4_givenBy := goodIn_r _ [5, 6, 7, 8, 4, 9, 10, 11, 12] (by decide +kernel) (by decide +kernel)
set_option maxRecDepth 20000 in
theorem gX4_sumGiven_X4_givenBy : GoodIn wsX4_sumGiven (wsV RX4 34 RX4 yX4_givenBy wsX4_givenBy) := goodIn_app (goodIn_of _ (by decide +kernel)) ggX4_sumGiven_X4_givenBy
theorem dX4_sumGiven_0 : decode cX4_sumGiven 0 = .ok (.iconst 0, 1) := by decide +kernel
theorem dX4_sumGiven_1 : decode cX4_sumGiven 1 = .ok (.istore_n 1, 1) := by decide +kernel
theorem dX4_sumGiven_2 : decode cX4_sumGiven 2 = .ok (.iconst 0, 1) := by decide +kernel
theorem dX4_sumGiven_3 : decode cX4_sumGiven 3 = .ok (.istore_n 2, 1) := by decide +kernel
theorem dX4_sumGiven_4 : decode cX4_sumGiven 4 = .ok (.iload_n 2, 1) := by decide +kernel
theorem dX4_sumGiven_5 : decode cX4_sumGiven 5 = .ok (.bipush 12, 2) := by decide +kernel
theorem dX4_sumGiven_7 : decode cX4_sumGiven 7 = .ok (.if_icmp .ge 17, 3) := by decide +kernel
theorem dX4_sumGiven_10 : decode cX4_sumGiven 10 = .ok (.iload_n 1, 1) := by decide +kernel
theorem dX4_sumGiven_11 : decode cX4_sumGiven 11 = .ok (.aload_n 0, 1) := by decide +kernel
theorem dX4_sumGiven_12 : decode cX4_sumGiven 12 = .ok (.iload_n 2, 1) := by decide +kernel
theorem dX4_sumGiven_13 : decode cX4_sumGiven 13 = .ok (.invokevirtual 34, 3) := by decide +kernel
theorem dX4_sumGiven_16 : decode cX4_sumGiven 16 = .ok (.iadd, 1) := by decide +kernel
theorem dX4_sumGiven_17 : decode cX4_sumGiven 17 = .ok (.istore_n 1, 1) := by decide +kernel
theorem dX4_sumGiven_18 : decode cX4_sumGiven 18 = .ok (.iinc 2 1, 3) := by decide +kernel
theorem dX4_sumGiven_21 : decode cX4_sumGiven 21 = .ok (.goto (-17), 3) := by decide +kernel
theorem dX4_sumGiven_24 : decode cX4_sumGiven 24 = .ok (.iload_n 1, 1) := by decide +kernel
theorem dX4_sumGiven_25 : decode cX4_sumGiven 25 = .ok (.ireturn, 1) := by decide +kernel
set_option maxRecDepth 20000 in
theorem ggX4_sumGot_X4_gotBy : GoodIn wsX4_sumGot wsX4_gotBy := goodIn_r _ [5, 6, 7, 8, 4, 9, 10, 11, 12] (by decide +kernel) (by decide +kernel)
set_option maxRecDepth 20000 in
theorem gX4_sumGot_X4_gotBy : GoodIn wsX4_sumGot (wsV RX4 38 RX4 yX4_gotBy wsX4_gotBy) := goodIn_app (goodIn_of _ (by decide +kernel)) ggX4_sumGot_X4_gotBy
theorem dX4_sumGot_0 : decode cX4_sumGot 0 = .ok (.iconst 0, 1) := by decide +kernel
theorem dX4_sumGot_1 : decode cX4_sumGot 1 = .ok (.istore_n 1, 1) := by decide +kernel
theorem dX4_sumGot_2 : decode cX4_sumGot 2 = .ok (.iconst 0, 1) := by decide +kernel
theorem dX4_sumGot_3 : decode cX4_sumGot 3 = .ok (.istore_n 2, 1) := by decide +kernel
theorem dX4_sumGot_4 : decode cX4_sumGot 4 = .ok (.iload_n 2, 1) := by decide +kernel
theorem dX4_sumGot_5 : decode cX4_sumGot 5 = .ok (.bipush 12, 2) := by decide +kernel
theorem dX4_sumGot_7 : decode cX4_sumGot 7 = .ok (.if_icmp .ge 17, 3) := by decide +kernel
theorem dX4_sumGot_10 : decode cX4_sumGot 10 = .ok (.iload_n 1, 1) := by decide +kernel
theorem dX4_sumGot_11 : decode cX4_sumGot 11 = .ok (.aload_n 0, 1) := by decide +kernel
theorem dX4_sumGot_12 : decode cX4_sumGot 12 = .ok (.iload_n 2, 1) := by decide +kernel
theorem dX4_sumGot_13 : decode cX4_sumGot 13 = .ok (.invokevirtual 38, 3) := by decide +kernel
theorem dX4_sumGot_16 : decode cX4_sumGot 16 = .ok (.iadd, 1) := by decide +kernel
theorem dX4_sumGot_17 : decode cX4_sumGot 17 = .ok (.istore_n 1, 1) := by decide +kernel
theorem dX4_sumGot_18 : decode cX4_sumGot 18 = .ok (.iinc 2 1, 3) := by decide +kernel
theorem dX4_sumGot_21 : decode cX4_sumGot 21 = .ok (.goto (-17), 3) := by decide +kernel
theorem dX4_sumGot_24 : decode cX4_sumGot 24 = .ok (.iload_n 1, 1) := by decide +kernel
theorem dX4_sumGot_25 : decode cX4_sumGot 25 = .ok (.ireturn, 1) := by decide +kernel
set_option maxRecDepth 20000 in
theorem ggX4_friendsOf_X4_countOf : GoodIn wsX4_friendsOf wsX4_countOf := goodIn_r _ [5, 6, 7, 8] (by decide +kernel) (by decide +kernel)
set_option maxRecDepth 20000 in
theorem gX4_friendsOf_X4_countOf : GoodIn wsX4_friendsOf (wsV RX4 30 RX4 yX4_countOf wsX4_countOf) := goodIn_app (goodIn_of _ (by decide +kernel)) ggX4_friendsOf_X4_countOf
theorem dX4_friendsOf_0 : decode cX4_friendsOf 0 = .ok (.iconst 0, 1) := by decide +kernel
theorem dX4_friendsOf_1 : decode cX4_friendsOf 1 = .ok (.istore_n 2, 1) := by decide +kernel
theorem dX4_friendsOf_2 : decode cX4_friendsOf 2 = .ok (.iconst 0, 1) := by decide +kernel
theorem dX4_friendsOf_3 : decode cX4_friendsOf 3 = .ok (.istore_n 3, 1) := by decide +kernel
theorem dX4_friendsOf_4 : decode cX4_friendsOf 4 = .ok (.iload_n 3, 1) := by decide +kernel
theorem dX4_friendsOf_5 : decode cX4_friendsOf 5 = .ok (.bipush 12, 2) := by decide +kernel
theorem dX4_friendsOf_7 : decode cX4_friendsOf 7 = .ok (.if_icmp .ge 33, 3) := by decide +kernel
theorem dX4_friendsOf_10 : decode cX4_friendsOf 10 = .ok (.aload_n 0, 1) := by decide +kernel
theorem dX4_friendsOf_11 : decode cX4_friendsOf 11 = .ok (.iload_n 1, 1) := by decide +kernel
theorem dX4_friendsOf_12 : decode cX4_friendsOf 12 = .ok (.iload_n 3, 1) := by decide +kernel
theorem dX4_friendsOf_13 : decode cX4_friendsOf 13 = .ok (.invokevirtual 30, 3) := by decide +kernel
theorem dX4_friendsOf_16 : decode cX4_friendsOf 16 = .ok (.ifCond .le 18, 3) := by decide +kernel
theorem dX4_friendsOf_19 : decode cX4_friendsOf 19 = .ok (.aload_n 0, 1) := by decide +kernel
theorem dX4_friendsOf_20 : decode cX4_friendsOf 20 = .ok (.iload_n 3, 1) := by decide +kernel
theorem dX4_friendsOf_21 : decode cX4_friendsOf 21 = .ok (.iload_n 1, 1) := by decide +kernel
theorem dX4_friendsOf_22 : decode cX4_friendsOf 22 = .ok (.invokevirtual 30, 3) := by decide +kernel
theorem dX4_friendsOf_25 : decode cX4_friendsOf 25 = .ok (.ifCond .le 9, 3) := by decide +kernel
theorem dX4_friendsOf_28 : decode cX4_friendsOf 28 = .ok (.iload_n 2, 1) := by decide +kernel
theorem dX4_friendsOf_29 : decode cX4_friendsOf 29 = .ok (.iconst 1, 1) := by decide +kernel
theorem dX4_friendsOf_30 : decode cX4_friendsOf 30 = .ok (.iload_n 3, 1) := by decide +kernel
theorem dX4_friendsOf_31 : decode cX4_friendsOf 31 = .ok (.ishl, 1) := by decide +kernel
theorem dX4_friendsOf_32 : decode cX4_friendsOf 32 = .ok (.ior, 1) := by decide +kernel
theorem dX4_friendsOf_33 : decode cX4_friendsOf 33 = .ok (.istore_n 2, 1) := by decide +kernel
theorem dX4_friendsOf_34 : decode cX4_friendsOf 34 = .ok (.iinc 3 1, 3) := by decide +kernel
theorem dX4_friendsOf_37 : decode cX4_friendsOf 37 = .ok (.goto (-33), 3) := by decide +kernel
theorem dX4_friendsOf_40 : decode cX4_friendsOf 40 = .ok (.iload_n 2, 1) := by decide +kernel
theorem dX4_friendsOf_41 : decode cX4_friendsOf 41 = .ok (.ireturn, 1) := by decide +kernel
set_option maxRecDepth 20000 in
theorem ggX4_countCircles_X4_circleOf : GoodIn wsX4_countCircles wsX4_circleOf := goodIn_r _ [5, 6, 7, 8, 4, 9, 10, 11, 12, 13, 14, 15, 16, 17, 18, 19, 20] (by decide +kernel) (by decide +kernel)
set_option maxRecDepth 20000 in
theorem gX4_countCircles_X4_circleOf : GoodIn wsX4_countCircles (wsV RX4 41 RX4 yX4_circleOf wsX4_circleOf) := goodIn_app (goodIn_of _ (by decide +kernel)) ggX4_countCircles_X4_circleOf
theorem dX4_countCircles_0 : decode cX4_countCircles 0 = .ok (.iconst 0, 1) := by decide +kernel
theorem dX4_countCircles_1 : decode cX4_countCircles 1 = .ok (.istore_n 1, 1) := by decide +kernel
theorem dX4_countCircles_2 : decode cX4_countCircles 2 = .ok (.iconst 0, 1) := by decide +kernel
theorem dX4_countCircles_3 : decode cX4_countCircles 3 = .ok (.istore_n 2, 1) := by decide +kernel
theorem dX4_countCircles_4 : decode cX4_countCircles 4 = .ok (.iconst 0, 1) := by decide +kernel
theorem dX4_countCircles_5 : decode cX4_countCircles 5 = .ok (.istore_n 3, 1) := by decide +kernel
theorem dX4_countCircles_6 : decode cX4_countCircles 6 = .ok (.iload_n 3, 1) := by decide +kernel
theorem dX4_countCircles_7 : decode cX4_countCircles 7 = .ok (.bipush 12, 2) := by decide +kernel
theorem dX4_countCircles_9 : decode cX4_countCircles 9 = .ok (.if_icmp .ge 28, 3) := by decide +kernel
theorem dX4_countCircles_12 : decode cX4_countCircles 12 = .ok (.iload_n 2, 1) := by decide +kernel
theorem dX4_countCircles_13 : decode cX4_countCircles 13 = .ok (.iload_n 3, 1) := by decide +kernel
theorem dX4_countCircles_14 : decode cX4_countCircles 14 = .ok (.ishr, 1) := by decide +kernel
theorem dX4_countCircles_15 : decode cX4_countCircles 15 = .ok (.iconst 1, 1) := by decide +kernel
theorem dX4_countCircles_16 : decode cX4_countCircles 16 = .ok (.iand, 1) := by decide +kernel
theorem dX4_countCircles_17 : decode cX4_countCircles 17 = .ok (.ifCond .ne 14, 3) := by decide +kernel
theorem dX4_countCircles_20 : decode cX4_countCircles 20 = .ok (.iinc 1 1, 3) := by decide +kernel
theorem dX4_countCircles_23 : decode cX4_countCircles 23 = .ok (.iload_n 2, 1) := by decide +kernel
theorem dX4_countCircles_24 : decode cX4_countCircles 24 = .ok (.aload_n 0, 1) := by decide +kernel
theorem dX4_countCircles_25 : decode cX4_countCircles 25 = .ok (.iload_n 3, 1) := by decide +kernel
theorem dX4_countCircles_26 : decode cX4_countCircles 26 = .ok (.invokevirtual 41, 3) := by decide +kernel
theorem dX4_countCircles_29 : decode cX4_countCircles 29 = .ok (.ior, 1) := by decide +kernel
theorem dX4_countCircles_30 : decode cX4_countCircles 30 = .ok (.istore_n 2, 1) := by decide +kernel
theorem dX4_countCircles_31 : decode cX4_countCircles 31 = .ok (.iinc 3 1, 3) := by decide +kernel
theorem dX4_countCircles_34 : decode cX4_countCircles 34 = .ok (.goto (-28), 3) := by decide +kernel
theorem dX4_countCircles_37 : decode cX4_countCircles 37 = .ok (.iload_n 1, 1) := by decide +kernel
theorem dX4_countCircles_38 : decode cX4_countCircles 38 = .ok (.ireturn, 1) := by decide +kernel
set_option maxRecDepth 20000 in
theorem ggX4_circleOf_X4_withFriends : GoodIn wsX4_circleOf wsX4_withFriends := goodIn_r _ [5, 6, 7, 8, 4, 9, 10, 11, 12, 13, 14, 15, 16] (by decide +kernel) (by decide +kernel)
set_option maxRecDepth 20000 in
theorem gX4_circleOf_X4_withFriends : GoodIn wsX4_circleOf (wsV RX4 44 RX4 yX4_withFriends wsX4_withFriends) := goodIn_app (goodIn_of _ (by decide +kernel)) ggX4_circleOf_X4_withFriends
theorem dX4_circleOf_0 : decode cX4_circleOf 0 = .ok (.iconst 1, 1) := by decide +kernel
theorem dX4_circleOf_1 : decode cX4_circleOf 1 = .ok (.iload_n 1, 1) := by decide +kernel
theorem dX4_circleOf_2 : decode cX4_circleOf 2 = .ok (.ishl, 1) := by decide +kernel
theorem dX4_circleOf_3 : decode cX4_circleOf 3 = .ok (.istore_n 2, 1) := by decide +kernel
theorem dX4_circleOf_4 : decode cX4_circleOf 4 = .ok (.iconst 0, 1) := by decide +kernel
theorem dX4_circleOf_5 : decode cX4_circleOf 5 = .ok (.istore_n 3, 1) := by decide +kernel
theorem dX4_circleOf_6 : decode cX4_circleOf 6 = .ok (.iload_n 3, 1) := by decide +kernel
theorem dX4_circleOf_7 : decode cX4_circleOf 7 = .ok (.bipush 12, 2) := by decide +kernel
theorem dX4_circleOf_9 : decode cX4_circleOf 9 = .ok (.if_icmp .ge 27, 3) := by decide +kernel
theorem dX4_circleOf_12 : decode cX4_circleOf 12 = .ok (.aload_n 0, 1) := by decide +kernel
theorem dX4_circleOf_13 : decode cX4_circleOf 13 = .ok (.iload_n 2, 1) := by decide +kernel
theorem dX4_circleOf_14 : decode cX4_circleOf 14 = .ok (.invokevirtual 44, 3) := by decide +kernel
theorem dX4_circleOf_17 : decode cX4_circleOf 17 = .ok (.istore 4, 2) := by decide +kernel
theorem dX4_circleOf_19 : decode cX4_circleOf 19 = .ok (.iload 4, 2) := by decide +kernel
theorem dX4_circleOf_21 : decode cX4_circleOf 21 = .ok (.iload_n 2, 1) := by decide +kernel
theorem dX4_circleOf_22 : decode cX4_circleOf 22 = .ok (.if_icmp .ne 5, 3) := by decide +kernel
theorem dX4_circleOf_25 : decode cX4_circleOf 25 = .ok (.iload_n 2, 1) := by decide +kernel
theorem dX4_circleOf_26 : decode cX4_circleOf 26 = .ok (.ireturn, 1) := by decide +kernel
theorem dX4_circleOf_27 : decode cX4_circleOf 27 = .ok (.iload 4, 2) := by decide +kernel
theorem dX4_circleOf_29 : decode cX4_circleOf 29 = .ok (.istore_n 2, 1) := by decide +kernel
theorem dX4_circleOf_30 : decode cX4_circleOf 30 = .ok (.iinc 3 1, 3) := by decide +kernel
theorem dX4_circleOf_33 : decode cX4_circleOf 33 = .ok (.goto (-27), 3) := by decide +kernel
theorem dX4_circleOf_36 : decode cX4_circleOf 36 = .ok (.iload_n 2, 1) := by decide +kernel
theorem dX4_circleOf_37 : decode cX4_circleOf 37 = .ok (.ireturn, 1) := by decide +kernel
set_option maxRecDepth 20000 in
theorem ggX4_withFriends_X4_friendsOf : GoodIn wsX4_withFriends wsX4_friendsOf := goodIn_r _ [5, 6, 7, 8, 4, 9, 10, 11, 12] (by decide +kernel) (by decide +kernel)
set_option maxRecDepth 20000 in
theorem gX4_withFriends_X4_friendsOf : GoodIn wsX4_withFriends (wsV RX4 47 RX4 yX4_friendsOf wsX4_friendsOf) := goodIn_app (goodIn_of _ (by decide +kernel)) ggX4_withFriends_X4_friendsOf
theorem dX4_withFriends_0 : decode cX4_withFriends 0 = .ok (.iload_n 1, 1) := by decide +kernel
theorem dX4_withFriends_1 : decode cX4_withFriends 1 = .ok (.istore_n 2, 1) := by decide +kernel
theorem dX4_withFriends_2 : decode cX4_withFriends 2 = .ok (.iconst 0, 1) := by decide +kernel
theorem dX4_withFriends_3 : decode cX4_withFriends 3 = .ok (.istore_n 3, 1) := by decide +kernel
theorem dX4_withFriends_4 : decode cX4_withFriends 4 = .ok (.iload_n 3, 1) := by decide +kernel
theorem dX4_withFriends_5 : decode cX4_withFriends 5 = .ok (.bipush 12, 2) := by decide +kernel
theorem dX4_withFriends_7 : decode cX4_withFriends 7 = .ok (.if_icmp .ge 26, 3) := by decide +kernel
theorem dX4_withFriends_10 : decode cX4_withFriends 10 = .ok (.iload_n 1, 1) := by decide +kernel
theorem dX4_withFriends_11 : decode cX4_withFriends 11 = .ok (.iload_n 3, 1) := by decide +kernel
theorem dX4_withFriends_12 : decode cX4_withFriends 12 = .ok (.ishr, 1) := by decide +kernel
theorem dX4_withFriends_13 : decode cX4_withFriends 13 = .ok (.iconst 1, 1) := by decide +kernel
theorem dX4_withFriends_14 : decode cX4_withFriends 14 = .ok (.iand, 1) := by decide +kernel
theorem dX4_withFriends_15 : decode cX4_withFriends 15 = .ok (.iconst 1, 1) := by decide +kernel
theorem dX4_withFriends_16 : decode cX4_withFriends 16 = .ok (.if_icmp .ne 11, 3) := by decide +kernel
theorem dX4_withFriends_19 : decode cX4_withFriends 19 = .ok (.iload_n 2, 1) := by decide +kernel
theorem dX4_withFriends_20 : decode cX4_withFriends 20 = .ok (.aload_n 0, 1) := by decide +kernel
theorem dX4_withFriends_21 : decode cX4_withFriends 21 = .ok (.iload_n 3, 1) := by decide +kernel
theorem dX4_withFriends_22 : decode cX4_withFriends 22 = .ok (.invokevirtual 47, 3) := by decide +kernel
theorem dX4_withFriends_25 : decode cX4_withFriends 25 = .ok (.ior, 1) := by decide +kernel
theorem dX4_withFriends_26 : decode cX4_withFriends 26 = .ok (.istore_n 2, 1) := by decide +kernel
theorem dX4_withFriends_27 : decode cX4_withFriends 27 = .ok (.iinc 3 1, 3) := by decide +kernel
theorem dX4_withFriends_30 : decode cX4_withFriends 30 = .ok (.goto (-26), 3) := by decide +kernel
theorem dX4_withFriends_33 : decode cX4_withFriends 33 = .ok (.iload_n 2, 1) := by decide +kernel
theorem dX4_withFriends_34 : decode cX4_withFriends 34 = .ok (.ireturn, 1) := by decide +kernel
set_option maxRecDepth 20000 in
theorem ggX5_init_X6_init : GoodIn wsX5_init wsX6_init := goodIn_r _ [10, 11, 2, 3, 12, 13, 14, 15, 16, 17, 18, 19, 20, 21, 22, 23, 24, 25, 26, 27, 28, 29, 30, 31, 32, 33, 34, 35, 36, 37, 38, 39, 40, 41, 42, 43, 44, 45, 46, 47, 48, 52, 53, 54, 55, 56, 57, 58, 59, 60, 61, 62, 63, 64, 65, 66, 67, 68, 69, 70, 71, 72] (by decide +kernel) (by decide +kernel)
set_option maxRecDepth 20000 in
theorem gX5_init_X6_init : GoodIn wsX5_init (wsX6_init) := ggX5_init_X6_init
theorem dX5_init_0 : decode cX5_init 0 = .ok (.aload_n 0, 1) := by decide +kernel
theorem dX5_init_1 : decode cX5_init 1 = .ok (.invokespecial 3, 3) := by decide +kernel
theorem dX5_init_4 : decode cX5_init 4 = .ok (.aload_n 0, 1) := by decide +kernel
theorem dX5_init_5 : decode cX5_init 5 = .ok (.bipush 8, 2) := by decide +kernel
theorem dX5_init_7 : decode cX5_init 7 = .ok (.anewarray 9, 3) := by decide +kernel
theorem dX5_init_10 : decode cX5_init 10 = .ok (.putfield 11, 3) := by decide +kernel
theorem dX5_init_13 : decode cX5_init 13 = .ok (.iconst 0, 1) := by decide +kernel
theorem dX5_init_14 : decode cX5_init 14 = .ok (.istore_n 1, 1) := by decide +kernel
theorem dX5_init_15 : decode cX5_init 15 = .ok (.iload_n 1, 1) := by decide +kernel
theorem dX5_init_16 : decode cX5_init 16 = .ok (.bipush 8, 2) := by decide +kernel
theorem dX5_init_18 : decode cX5_init 18 = .ok (.if_icmp .ge 22, 3) := by decide +kernel
theorem dX5_init_21 : decode cX5_init 21 = .ok (.aload_n 0, 1) := by decide +kernel
theorem dX5_init_22 : decode cX5_init 22 = .ok (.getfield 11, 3) := by decide +kernel
theorem dX5_init_25 : decode cX5_init 25 = .ok (.iload_n 1, 1) := by decide +kernel
theorem dX5_init_26 : decode cX5_init 26 = .ok (.new 9, 3) := by decide +kernel
theorem dX5_init_29 : decode cX5_init 29 = .ok (.dup, 1) := by decide +kernel
theorem dX5_init_30 : decode cX5_init 30 = .ok (.invokespecial 17, 3) := by decide +kernel
theorem dX5_init_33 : decode cX5_init 33 = .ok (.aastore, 1) := by decide +kernel
theorem dX5_init_34 : decode cX5_init 34 = .ok (.iinc 1 1, 3) := by decide +kernel
theorem dX5_init_37 : decode cX5_init 37 = .ok (.goto (-22), 3) := by decide +kernel
theorem dX5_init_40 : decode cX5_init 40 = .ok (.return_, 1) := by decide +kernel
set_option maxRecDepth 20000 in
theorem ggX5_keep_X6_take : GoodIn wsX5_keep wsX6_take := goodIn_r _ [12, 13, 14, 15, 16, 17, 18, 19, 20, 21, 22, 23, 24, 25, 26, 27, 28, 29, 30, 31, 32, 33, 34, 35, 36, 37, 38, 39, 40, 41, 42, 43, 44, 45, 46, 47, 48, 49, 50, 51, 52, 53, 54, 58, 59, 60, 61, 62, 63, 64, 65, 66, 67, 68, 69, 70, 71, 72, 73, 74, 75, 76, 77, 78] (by decide +kernel) (by decide +kernel)
set_option maxRecDepth 20000 in
theorem gX5_keep_X6_take : GoodIn wsX5_keep (wsV RX5 22 RX6 yX6_take wsX6_take) := goodIn_app (goodIn_of _ (by decide +kernel)) ggX5_keep_X6_take
theorem dX5_keep_0 : decode cX5_keep 0 = .ok (.aload_n 0, 1) := by decide +kernel
theorem dX5_keep_1 : decode cX5_keep 1 = .ok (.getfield 11, 3) := by decide +kernel
theorem dX5_keep_4 : decode cX5_keep 4 = .ok (.aload_n 0, 1) := by decide +kernel
theorem dX5_keep_5 : decode cX5_keep 5 = .ok (.getfield 18, 3) := by decide +kernel
theorem dX5_keep_8 : decode cX5_keep 8 = .ok (.aaload, 1) := by decide +kernel
theorem dX5_keep_9 : decode cX5_keep 9 = .ok (.aload_n 1, 1) := by decide +kernel
theorem dX5_keep_10 : decode cX5_keep 10 = .ok (.invokevirtual 22, 3) := by decide +kernel
theorem dX5_keep_13 : decode cX5_keep 13 = .ok (.aload_n 0, 1) := by decide +kernel
theorem dX5_keep_14 : decode cX5_keep 14 = .ok (.aload_n 0, 1) := by decide +kernel
theorem dX5_keep_15 : decode cX5_keep 15 = .ok (.getfield 18, 3) := by decide +kernel
theorem dX5_keep_18 : decode cX5_keep 18 = .ok (.iconst 1, 1) := by decide +kernel
theorem dX5_keep_19 : decode cX5_keep 19 = .ok (.iadd, 1) := by decide +kernel
theorem dX5_keep_20 : decode cX5_keep 20 = .ok (.bipush 8, 2) := by decide +kernel
theorem dX5_keep_22 : decode cX5_keep 22 = .ok (.irem, 1) := by decide +kernel
theorem dX5_keep_23 : decode cX5_keep 23 = .ok (.putfield 18, 3) := by decide +kernel
theorem dX5_keep_26 : decode cX5_keep 26 = .ok (.aload_n 0, 1) := by decide +kernel
theorem dX5_keep_27 : decode cX5_keep 27 = .ok (.aload_n 0, 1) := by decide +kernel
theorem dX5_keep_28 : decode cX5_keep 28 = .ok (.getfield 26, 3) := by decide +kernel
theorem dX5_keep_31 : decode cX5_keep 31 = .ok (.iconst 1, 1) := by decide +kernel
theorem dX5_keep_32 : decode cX5_keep 32 = .ok (.iadd, 1) := by decide +kernel
theorem dX5_keep_33 : decode cX5_keep 33 = .ok (.bipush 8, 2) := by decide +kernel
theorem dX5_keep_35 : decode cX5_keep 35 = .ok (.invokestatic 29, 3) := by decide +kernel
theorem dX5_keep_38 : decode cX5_keep 38 = .ok (.putfield 26, 3) := by decide +kernel
theorem dX5_keep_41 : decode cX5_keep 41 = .ok (.return_, 1) := by decide +kernel
set_option maxRecDepth 20000 in
theorem ggX5_takeBack_X6_take : GoodIn wsX5_takeBack wsX6_take := goodIn_r _ [8, 9, 10, 11, 12, 13, 14, 15, 16, 17, 18, 19, 20, 21, 22, 23, 24, 25, 26, 27, 28, 29, 30, 31, 32, 33, 34, 35, 36, 37, 38, 39, 40, 41, 42, 43, 44, 45, 46, 47, 48, 49, 50, 54, 55, 56, 57, 58, 59, 60, 61, 62, 63, 64, 65, 66, 67, 68, 69, 70, 71, 72, 73, 74] (by decide +kernel) (by decide +kernel)
set_option maxRecDepth 20000 in
theorem gX5_takeBack_X6_take : GoodIn wsX5_takeBack (wsV RX5 22 RX6 yX6_take wsX6_take) := goodIn_app (goodIn_of _ (by decide +kernel)) ggX5_takeBack_X6_take
theorem dX5_takeBack_0 : decode cX5_takeBack 0 = .ok (.aload_n 0, 1) := by decide +kernel
theorem dX5_takeBack_1 : decode cX5_takeBack 1 = .ok (.aload_n 0, 1) := by decide +kernel
theorem dX5_takeBack_2 : decode cX5_takeBack 2 = .ok (.getfield 18, 3) := by decide +kernel
theorem dX5_takeBack_5 : decode cX5_takeBack 5 = .ok (.bipush 8, 2) := by decide +kernel
theorem dX5_takeBack_7 : decode cX5_takeBack 7 = .ok (.iadd, 1) := by decide +kernel
theorem dX5_takeBack_8 : decode cX5_takeBack 8 = .ok (.iconst 1, 1) := by decide +kernel
theorem dX5_takeBack_9 : decode cX5_takeBack 9 = .ok (.isub, 1) := by decide +kernel
theorem dX5_takeBack_10 : decode cX5_takeBack 10 = .ok (.bipush 8, 2) := by decide +kernel
theorem dX5_takeBack_12 : decode cX5_takeBack 12 = .ok (.irem, 1) := by decide +kernel
theorem dX5_takeBack_13 : decode cX5_takeBack 13 = .ok (.putfield 18, 3) := by decide +kernel
theorem dX5_takeBack_16 : decode cX5_takeBack 16 = .ok (.aload_n 0, 1) := by decide +kernel
theorem dX5_takeBack_17 : decode cX5_takeBack 17 = .ok (.dup, 1) := by decide +kernel
theorem dX5_takeBack_18 : decode cX5_takeBack 18 = .ok (.getfield 26, 3) := by decide +kernel
theorem dX5_takeBack_21 : decode cX5_takeBack 21 = .ok (.iconst 1, 1) := by decide +kernel
theorem dX5_takeBack_22 : decode cX5_takeBack 22 = .ok (.isub, 1) := by decide +kernel
theorem dX5_takeBack_23 : decode cX5_takeBack 23 = .ok (.putfield 26, 3) := by decide +kernel
theorem dX5_takeBack_26 : decode cX5_takeBack 26 = .ok (.aload_n 1, 1) := by decide +kernel
theorem dX5_takeBack_27 : decode cX5_takeBack 27 = .ok (.aload_n 0, 1) := by decide +kernel
theorem dX5_takeBack_28 : decode cX5_takeBack 28 = .ok (.getfield 11, 3) := by decide +kernel
theorem dX5_takeBack_31 : decode cX5_takeBack 31 = .ok (.aload_n 0, 1) := by decide +kernel
theorem dX5_takeBack_32 : decode cX5_takeBack 32 = .ok (.getfield 18, 3) := by decide +kernel
theorem dX5_takeBack_35 : decode cX5_takeBack 35 = .ok (.aaload, 1) := by decide +kernel
theorem dX5_takeBack_36 : decode cX5_takeBack 36 = .ok (.invokevirtual 22, 3) := by decide +kernel
theorem dX5_takeBack_39 : decode cX5_takeBack 39 = .ok (.return_, 1) := by decide +kernel
theorem dX5_forget_0 : decode cX5_forget 0 = .ok (.aload_n 0, 1) := by decide +kernel
theorem dX5_forget_1 : decode cX5_forget 1 = .ok (.iconst 0, 1) := by decide +kernel
theorem dX5_forget_2 : decode cX5_forget 2 = .ok (.putfield 26, 3) := by decide +kernel
theorem dX5_forget_5 : decode cX5_forget 5 = .ok (.return_, 1) := by decide +kernel
set_option maxRecDepth 20000 in
theorem ggX6_init_X7_init : GoodIn wsX6_init wsX7_init := goodIn_r _ [21, 22, 2, 3, 4, 23, 24, 25, 51, 52, 53, 54, 55] (by decide +kernel) (by decide +kernel)
set_option maxRecDepth 20000 in
theorem gX6_init_X7_init_n20 : GoodIn wsX6_init (wsX7_init) := ggX6_init_X7_init
set_option maxRecDepth 20000 in
theorem ggX6_init_X4_init : GoodIn wsX6_init wsX4_init := goodIn_r _ [27, 28, 2, 3, 4, 29, 30, 56, 57] (by decide +kernel) (by decide +kernel)
set_option maxRecDepth 20000 in
theorem gX6_init_X4_init_n27 : GoodIn wsX6_init (wsX4_init) := ggX6_init_X4_init
set_option maxRecDepth 20000 in
theorem ggX6_init_X1_init : GoodIn wsX6_init wsX1_init := goodIn_r _ [32, 33, 2, 3, 4, 34, 35, 36, 58, 59, 60, 61] (by decide +kernel) (by decide +kernel)
set_option maxRecDepth 20000 in
theorem gX6_init_X1_init_n34 : GoodIn wsX6_init (wsX1_init) := ggX6_init_X1_init
set_option maxRecDepth 20000 in
theorem ggX6_init_J7_fill_53178 : GoodIn wsX6_init wsJ7_fill_53178 := goodIn_r _ [40] (by decide +kernel) (by decide +kernel)
set_option maxRecDepth 20000 in
theorem gX6_init_J7_fill_53178 : GoodIn wsX6_init (va_wsS RX6 42 yJ7_fill_53178 wsJ7_fill_53178) := goodIn_app (goodIn_of _ (by decide +kernel)) ggX6_init_J7_fill_53178
theorem dX6_init_0 : decode cX6_init 0 = .ok (.aload_n 0, 1) := by decide +kernel
theorem dX6_init_1 : decode cX6_init 1 = .ok (.invokespecial 3, 3) := by decide +kernel
theorem dX6_init_4 : decode cX6_init 4 = .ok (.aload_n 0, 1) := by decide +kernel
theorem dX6_init_5 : decode cX6_init 5 = .ok (.bipush 12, 2) := by decide +kernel
theorem dX6_init_7 : decode cX6_init 7 = .ok (.newarray .int, 2) := by decide +kernel
theorem dX6_init_9 : decode cX6_init 9 = .ok (.putfield 9, 3) := by decide +kernel
theorem dX6_init_12 : decode cX6_init 12 = .ok (.aload_n 0, 1) := by decide +kernel
theorem dX6_init_13 : decode cX6_init 13 = .ok (.bipush 12, 2) := by decide +kernel
theorem dX6_init_15 : decode cX6_init 15 = .ok (.newarray .int, 2) := by decide +kernel
theorem dX6_init_17 : decode cX6_init 17 = .ok (.putfield 15, 3) := by decide +kernel
theorem dX6_init_20 : decode cX6_init 20 = .ok (.aload_n 0, 1) := by decide +kernel
theorem dX6_init_21 : decode cX6_init 21 = .ok (.new 18, 3) := by decide +kernel
theorem dX6_init_24 : decode cX6_init 24 = .ok (.dup, 1) := by decide +kernel
theorem dX6_init_25 : decode cX6_init 25 = .ok (.invokespecial 20, 3) := by decide +kernel
theorem dX6_init_28 : decode cX6_init 28 = .ok (.putfield 21, 3) := by decide +kernel
theorem dX6_init_31 : decode cX6_init 31 = .ok (.aload_n 0, 1) := by decide +kernel
theorem dX6_init_32 : decode cX6_init 32 = .ok (.new 25, 3) := by decide +kernel
theorem dX6_init_35 : decode cX6_init 35 = .ok (.dup, 1) := by decide +kernel
theorem dX6_init_36 : decode cX6_init 36 = .ok (.invokespecial 27, 3) := by decide +kernel
theorem dX6_init_39 : decode cX6_init 39 = .ok (.putfield 28, 3) := by decide +kernel
theorem dX6_init_42 : decode cX6_init 42 = .ok (.aload_n 0, 1) := by decide +kernel
theorem dX6_init_43 : decode cX6_init 43 = .ok (.new 32, 3) := by decide +kernel
theorem dX6_init_46 : decode cX6_init 46 = .ok (.dup, 1) := by decide +kernel
theorem dX6_init_47 : decode cX6_init 47 = .ok (.invokespecial 34, 3) := by decide +kernel
theorem dX6_init_50 : decode cX6_init 50 = .ok (.putfield 35, 3) := by decide +kernel
theorem dX6_init_53 : decode cX6_init 53 = .ok (.aload_n 0, 1) := by decide +kernel
theorem dX6_init_54 : decode cX6_init 54 = .ok (.bipush 12, 2) := by decide +kernel
theorem dX6_init_56 : decode cX6_init 56 = .ok (.newarray .int, 2) := by decide +kernel
theorem dX6_init_58 : decode cX6_init 58 = .ok (.putfield 39, 3) := by decide +kernel
theorem dX6_init_61 : decode cX6_init 61 = .ok (.aload_n 0, 1) := by decide +kernel
theorem dX6_init_62 : decode cX6_init 62 = .ok (.getfield 15, 3) := by decide +kernel
theorem dX6_init_65 : decode cX6_init 65 = .ok (.iconst 3, 1) := by decide +kernel
theorem dX6_init_66 : decode cX6_init 66 = .ok (.invokestatic 42, 3) := by decide +kernel
theorem dX6_init_69 : decode cX6_init 69 = .ok (.return_, 1) := by decide +kernel
set_option maxRecDepth 20000 in
theorem ggX6_becomeNew_J7_fill_53178 : GoodIn wsX6_becomeNew wsJ7_fill_53178 := goodIn_r _ [13] (by decide +kernel) (by decide +kernel)
set_option maxRecDepth 20000 in
theorem gX6_becomeNew_J7_fill_53178 : GoodIn wsX6_becomeNew (va_wsS RX6 42 yJ7_fill_53178 wsJ7_fill_53178) := goodIn_app (goodIn_of _ (by decide +kernel)) ggX6_becomeNew_J7_fill_53178
set_option maxRecDepth 20000 in
theorem ggX6_becomeNew_X7_becomeNew : GoodIn wsX6_becomeNew wsX7_becomeNew := goodIn_r _ [18, 19, 20, 45, 46, 47, 48, 49] (by decide +kernel) (by decide +kernel)
set_option maxRecDepth 20000 in
theorem gX6_becomeNew_X7_becomeNew : GoodIn wsX6_becomeNew (wsV RX6 48 RX7 yX7_becomeNew wsX7_becomeNew) := goodIn_app (goodIn_of _ (by decide +kernel)) ggX6_becomeNew_X7_becomeNew
set_option maxRecDepth 20000 in
theorem ggX6_becomeNew_X4_becomeNew : GoodIn wsX6_becomeNew wsX4_becomeNew := goodIn_r _ [25, 26, 27, 28, 11, 12, 13, 50, 51] (by decide +kernel) (by decide +kernel)
set_option maxRecDepth 20000 in
theorem gX6_becomeNew_X4_becomeNew : GoodIn wsX6_becomeNew (wsV RX6 51 RX4 yX4_becomeNew wsX4_becomeNew) := goodIn_app (goodIn_of _ (by decide +kernel)) ggX6_becomeNew_X4_becomeNew
set_option maxRecDepth 20000 in
theorem ggX6_becomeNew_X1_becomeNew : GoodIn wsX6_becomeNew wsX1_becomeNew := goodIn_r _ [33, 34, 52, 53, 54, 55] (by decide +kernel) (by decide +kernel)
set_option maxRecDepth 20000 in
theorem gX6_becomeNew_X1_becomeNew : GoodIn wsX6_becomeNew (wsV RX6 52 RX1 yX1_becomeNew wsX1_becomeNew) := goodIn_app (goodIn_of _ (by decide +kernel)) ggX6_becomeNew_X1_becomeNew
theorem dX6_becomeNew_0 : decode cX6_becomeNew 0 = .ok (.aload_n 0, 1) := by decide +kernel
theorem dX6_becomeNew_1 : decode cX6_becomeNew 1 = .ok (.getfield 9, 3) := by decide +kernel
theorem dX6_becomeNew_4 : decode cX6_becomeNew 4 = .ok (.iconst 0, 1) := by decide +kernel
theorem dX6_becomeNew_5 : decode cX6_becomeNew 5 = .ok (.invokestatic 42, 3) := by decide +kernel
theorem dX6_becomeNew_8 : decode cX6_becomeNew 8 = .ok (.aload_n 0, 1) := by decide +kernel
theorem dX6_becomeNew_9 : decode cX6_becomeNew 9 = .ok (.getfield 15, 3) := by decide +kernel
theorem dX6_becomeNew_12 : decode cX6_becomeNew 12 = .ok (.iconst 3, 1) := by decide +kernel
theorem dX6_becomeNew_13 : decode cX6_becomeNew 13 = .ok (.invokestatic 42, 3) := by decide +kernel
theorem dX6_becomeNew_16 : decode cX6_becomeNew 16 = .ok (.aload_n 0, 1) := by decide +kernel
theorem dX6_becomeNew_17 : decode cX6_becomeNew 17 = .ok (.getfield 21, 3) := by decide +kernel
theorem dX6_becomeNew_20 : decode cX6_becomeNew 20 = .ok (.invokevirtual 48, 3) := by decide +kernel
theorem dX6_becomeNew_23 : decode cX6_becomeNew 23 = .ok (.aload_n 0, 1) := by decide +kernel
theorem dX6_becomeNew_24 : decode cX6_becomeNew 24 = .ok (.getfield 28, 3) := by decide +kernel
theorem dX6_becomeNew_27 : decode cX6_becomeNew 27 = .ok (.invokevirtual 51, 3) := by decide +kernel
theorem dX6_becomeNew_30 : decode cX6_becomeNew 30 = .ok (.aload_n 0, 1) := by decide +kernel
theorem dX6_becomeNew_31 : decode cX6_becomeNew 31 = .ok (.getfield 35, 3) := by decide +kernel
theorem dX6_becomeNew_34 : decode cX6_becomeNew 34 = .ok (.invokevirtual 52, 3) := by decide +kernel
theorem dX6_becomeNew_37 : decode cX6_becomeNew 37 = .ok (.aload_n 0, 1) := by decide +kernel
theorem dX6_becomeNew_38 : decode cX6_becomeNew 38 = .ok (.iconst 0, 1) := by decide +kernel
theorem dX6_becomeNew_39 : decode cX6_becomeNew 39 = .ok (.putfield 53, 3) := by decide +kernel
theorem dX6_becomeNew_42 : decode cX6_becomeNew 42 = .ok (.aload_n 0, 1) := by decide +kernel
theorem dX6_becomeNew_43 : decode cX6_becomeNew 43 = .ok (.iconst 0, 1) := by decide +kernel
theorem dX6_becomeNew_44 : decode cX6_becomeNew 44 = .ok (.putfield 57, 3) := by decide +kernel
theorem dX6_becomeNew_47 : decode cX6_becomeNew 47 = .ok (.aload_n 0, 1) := by decide +kernel
theorem dX6_becomeNew_48 : decode cX6_becomeNew 48 = .ok (.iconst 0, 1) := by decide +kernel
theorem dX6_becomeNew_49 : decode cX6_becomeNew 49 = .ok (.putfield 60, 3) := by decide +kernel
theorem dX6_becomeNew_52 : decode cX6_becomeNew 52 = .ok (.aload_n 0, 1) := by decide +kernel
theorem dX6_becomeNew_53 : decode cX6_becomeNew 53 = .ok (.iconst 0, 1) := by decide +kernel
theorem dX6_becomeNew_54 : decode cX6_becomeNew 54 = .ok (.putfield 63, 3) := by decide +kernel
theorem dX6_becomeNew_57 : decode cX6_becomeNew 57 = .ok (.return_, 1) := by decide +kernel
set_option maxRecDepth 20000 in
theorem ggX6_take_X7_take : GoodIn wsX6_take wsX7_take := goodIn_r _ [18, 19, 20, 3, 4, 5, 21, 22, 23, 24, 53, 54, 55, 56, 57] (by decide +kernel) (by decide +kernel)
set_option maxRecDepth 20000 in
theorem gX6_take_X7_take : GoodIn wsX6_take (wsV RX6 72 RX7 yX7_take wsX7_take) := goodIn_app (goodIn_of _ (by decide +kernel)) ggX6_take_X7_take
set_option maxRecDepth 20000 in
theorem ggX6_take_X4_take : GoodIn wsX6_take wsX4_take := goodIn_r _ [29, 30, 31, 3, 4, 5, 32, 58, 59] (by decide +kernel) (by decide +kernel)
set_option maxRecDepth 20000 in
theorem gX6_take_X4_take : GoodIn wsX6_take (wsV RX6 76 RX4 yX4_take wsX4_take) := goodIn_app (goodIn_of _ (by decide +kernel)) ggX6_take_X4_take
set_option maxRecDepth 20000 in
theorem ggX6_take_X1_take : GoodIn wsX6_take wsX1_take := goodIn_r _ [37, 38, 39, 3, 4, 5, 40, 41, 42, 60, 61, 62, 63] (by decide +kernel) (by decide +kernel)
set_option maxRecDepth 20000 in
theorem gX6_take_X1_take : GoodIn wsX6_take (wsV RX6 79 RX1 yX1_take wsX1_take) := goodIn_app (goodIn_of _ (by decide +kernel)) ggX6_take_X1_take
theorem dX6_take_0 : decode cX6_take 0 = .ok (.aload_n 1, 1) := by decide +kernel
theorem dX6_take_1 : decode cX6_take 1 = .ok (.getfield 9, 3) := by decide +kernel
theorem dX6_take_4 : decode cX6_take 4 = .ok (.iconst 0, 1) := by decide +kernel
theorem dX6_take_5 : decode cX6_take 5 = .ok (.aload_n 0, 1) := by decide +kernel
theorem dX6_take_6 : decode cX6_take 6 = .ok (.getfield 9, 3) := by decide +kernel
theorem dX6_take_9 : decode cX6_take 9 = .ok (.iconst 0, 1) := by decide +kernel
theorem dX6_take_10 : decode cX6_take 10 = .ok (.bipush 12, 2) := by decide +kernel
theorem dX6_take_12 : decode cX6_take 12 = .ok (.invokestatic 66, 3) := by decide +kernel
theorem dX6_take_15 : decode cX6_take 15 = .ok (.aload_n 1, 1) := by decide +kernel
theorem dX6_take_16 : decode cX6_take 16 = .ok (.getfield 15, 3) := by decide +kernel
theorem dX6_take_19 : decode cX6_take 19 = .ok (.iconst 0, 1) := by decide +kernel
theorem dX6_take_20 : decode cX6_take 20 = .ok (.aload_n 0, 1) := by decide +kernel
theorem dX6_take_21 : decode cX6_take 21 = .ok (.getfield 15, 3) := by decide +kernel
theorem dX6_take_24 : decode cX6_take 24 = .ok (.iconst 0, 1) := by decide +kernel
theorem dX6_take_25 : decode cX6_take 25 = .ok (.bipush 12, 2) := by decide +kernel
theorem dX6_take_27 : decode cX6_take 27 = .ok (.invokestatic 66, 3) := by decide +kernel
theorem dX6_take_30 : decode cX6_take 30 = .ok (.aload_n 0, 1) := by decide +kernel
theorem dX6_take_31 : decode cX6_take 31 = .ok (.getfield 21, 3) := by decide +kernel
theorem dX6_take_34 : decode cX6_take 34 = .ok (.aload_n 1, 1) := by decide +kernel
theorem dX6_take_35 : decode cX6_take 35 = .ok (.getfield 21, 3) := by decide +kernel
theorem dX6_take_38 : decode cX6_take 38 = .ok (.invokevirtual 72, 3) := by decide +kernel
theorem dX6_take_41 : decode cX6_take 41 = .ok (.aload_n 0, 1) := by decide +kernel
theorem dX6_take_42 : decode cX6_take 42 = .ok (.getfield 28, 3) := by decide +kernel
theorem dX6_take_45 : decode cX6_take 45 = .ok (.aload_n 1, 1) := by decide +kernel
theorem dX6_take_46 : decode cX6_take 46 = .ok (.getfield 28, 3) := by decide +kernel
theorem dX6_take_49 : decode cX6_take 49 = .ok (.invokevirtual 76, 3) := by decide +kernel
theorem dX6_take_52 : decode cX6_take 52 = .ok (.aload_n 0, 1) := by decide +kernel
theorem dX6_take_53 : decode cX6_take 53 = .ok (.getfield 35, 3) := by decide +kernel
theorem dX6_take_56 : decode cX6_take 56 = .ok (.aload_n 1, 1) := by decide +kernel
theorem dX6_take_57 : decode cX6_take 57 = .ok (.getfield 35, 3) := by decide +kernel
theorem dX6_take_60 : decode cX6_take 60 = .ok (.invokevirtual 79, 3) := by decide +kernel
theorem dX6_take_63 : decode cX6_take 63 = .ok (.aload_n 0, 1) := by decide +kernel
theorem dX6_take_64 : decode cX6_take 64 = .ok (.aload_n 1, 1) := by decide +kernel
theorem dX6_take_65 : decode cX6_take 65 = .ok (.getfield 53, 3) := by decide +kernel
theorem dX6_take_68 : decode cX6_take 68 = .ok (.putfield 53, 3) := by decide +kernel
theorem dX6_take_71 : decode cX6_take 71 = .ok (.aload_n 0, 1) := by decide +kernel
theorem dX6_take_72 : decode cX6_take 72 = .ok (.aload_n 1, 1) := by decide +kernel
theorem dX6_take_73 : decode cX6_take 73 = .ok (.getfield 57, 3) := by decide +kernel
theorem dX6_take_76 : decode cX6_take 76 = .ok (.putfield 57, 3) := by decide +kernel
theorem dX6_take_79 : decode cX6_take 79 = .ok (.aload_n 0, 1) := by decide +kernel
theorem dX6_take_80 : decode cX6_take 80 = .ok (.aload_n 1, 1) := by decide +kernel
theorem dX6_take_81 : decode cX6_take 81 = .ok (.getfield 60, 3) := by decide +kernel
theorem dX6_take_84 : decode cX6_take 84 = .ok (.putfield 60, 3) := by decide +kernel
theorem dX6_take_87 : decode cX6_take 87 = .ok (.aload_n 0, 1) := by decide +kernel
theorem dX6_take_88 : decode cX6_take 88 = .ok (.aload_n 1, 1) := by decide +kernel
theorem dX6_take_89 : decode cX6_take 89 = .ok (.getfield 63, 3) := by decide +kernel
theorem dX6_take_92 : decode cX6_take 92 = .ok (.putfield 63, 3) := by decide +kernel
theorem dX6_take_95 : decode cX6_take 95 = .ok (.return_, 1) := by decide +kernel
set_option maxRecDepth 20000 in
theorem ggX6_putPlants_X12_isBalcony : GoodIn wsX6_putPlants wsX12_isBalcony := goodIn_r _ [5] (by decide +kernel) (by decide +kernel)
set_option maxRecDepth 20000 in
theorem gX6_putPlants_X12_isBalcony_n82 : GoodIn wsX6_putPlants (wsX12_isBalcony) := ggX6_putPlants_X12_isBalcony
set_option maxRecDepth 20000 in
theorem ggX6_putPlants_X11_note : GoodIn wsX6_putPlants wsX11_note := goodIn_r _ [10, 11, 12, 13, 14, 25, 26, 27, 28] (by decide +kernel) (by decide +kernel)
set_option maxRecDepth 20000 in
theorem gX6_putPlants_X11_note : GoodIn wsX6_putPlants (wsV RX6 86 RX11 yX11_note wsX11_note) := goodIn_app (goodIn_of _ (by decide +kernel)) ggX6_putPlants_X11_note
theorem dX6_putPlants_0 : decode cX6_putPlants 0 = .ok (.iload_n 1, 1) := by decide +kernel
theorem dX6_putPlants_1 : decode cX6_putPlants 1 = .ok (.invokestatic 82, 3) := by decide +kernel
theorem dX6_putPlants_4 : decode cX6_putPlants 4 = .ok (.ifCond .ne 5, 3) := by decide +kernel
theorem dX6_putPlants_7 : decode cX6_putPlants 7 = .ok (.iconst (-1), 1) := by decide +kernel
theorem dX6_putPlants_8 : decode cX6_putPlants 8 = .ok (.ireturn, 1) := by decide +kernel
theorem dX6_putPlants_9 : decode cX6_putPlants 9 = .ok (.iload_n 2, 1) := by decide +kernel
theorem dX6_putPlants_10 : decode cX6_putPlants 10 = .ok (.iconst 1, 1) := by decide +kernel
theorem dX6_putPlants_11 : decode cX6_putPlants 11 = .ok (.if_icmp .lt 9, 3) := by decide +kernel
theorem dX6_putPlants_14 : decode cX6_putPlants 14 = .ok (.iload_n 2, 1) := by decide +kernel
theorem dX6_putPlants_15 : decode cX6_putPlants 15 = .ok (.bipush 9, 2) := by decide +kernel
theorem dX6_putPlants_17 : decode cX6_putPlants 17 = .ok (.if_icmp .le 6, 3) := by decide +kernel
theorem dX6_putPlants_20 : decode cX6_putPlants 20 = .ok (.bipush (-2), 2) := by decide +kernel
theorem dX6_putPlants_22 : decode cX6_putPlants 22 = .ok (.ireturn, 1) := by decide +kernel
theorem dX6_putPlants_23 : decode cX6_putPlants 23 = .ok (.aload_n 0, 1) := by decide +kernel
theorem dX6_putPlants_24 : decode cX6_putPlants 24 = .ok (.getfield 9, 3) := by decide +kernel
theorem dX6_putPlants_27 : decode cX6_putPlants 27 = .ok (.iload_n 1, 1) := by decide +kernel
theorem dX6_putPlants_28 : decode cX6_putPlants 28 = .ok (.iaload, 1) := by decide +kernel
theorem dX6_putPlants_29 : decode cX6_putPlants 29 = .ok (.iload_n 2, 1) := by decide +kernel
theorem dX6_putPlants_30 : decode cX6_putPlants 30 = .ok (.iadd, 1) := by decide +kernel
theorem dX6_putPlants_31 : decode cX6_putPlants 31 = .ok (.bipush 9, 2) := by decide +kernel
theorem dX6_putPlants_33 : decode cX6_putPlants 33 = .ok (.if_icmp .le 15, 3) := by decide +kernel
theorem dX6_putPlants_36 : decode cX6_putPlants 36 = .ok (.aload_n 3, 1) := by decide +kernel
theorem dX6_putPlants_37 : decode cX6_putPlants 37 = .ok (.iconst 4, 1) := by decide +kernel
theorem dX6_putPlants_38 : decode cX6_putPlants 38 = .ok (.aload_n 0, 1) := by decide +kernel
theorem dX6_putPlants_39 : decode cX6_putPlants 39 = .ok (.getfield 9, 3) := by decide +kernel
theorem dX6_putPlants_42 : decode cX6_putPlants 42 = .ok (.iload_n 1, 1) := by decide +kernel
theorem dX6_putPlants_43 : decode cX6_putPlants 43 = .ok (.iaload, 1) := by decide +kernel
theorem dX6_putPlants_44 : decode cX6_putPlants 44 = .ok (.invokevirtual 86, 3) := by decide +kernel
theorem dX6_putPlants_47 : decode cX6_putPlants 47 = .ok (.ireturn, 1) := by decide +kernel
theorem dX6_putPlants_48 : decode cX6_putPlants 48 = .ok (.aload_n 0, 1) := by decide +kernel
theorem dX6_putPlants_49 : decode cX6_putPlants 49 = .ok (.getfield 9, 3) := by decide +kernel
theorem dX6_putPlants_52 : decode cX6_putPlants 52 = .ok (.iload_n 1, 1) := by decide +kernel
theorem dX6_putPlants_53 : decode cX6_putPlants 53 = .ok (.dup2, 1) := by decide +kernel
theorem dX6_putPlants_54 : decode cX6_putPlants 54 = .ok (.iaload, 1) := by decide +kernel
theorem dX6_putPlants_55 : decode cX6_putPlants 55 = .ok (.iload_n 2, 1) := by decide +kernel
theorem dX6_putPlants_56 : decode cX6_putPlants 56 = .ok (.iadd, 1) := by decide +kernel
theorem dX6_putPlants_57 : decode cX6_putPlants 57 = .ok (.iastore, 1) := by decide +kernel
theorem dX6_putPlants_58 : decode cX6_putPlants 58 = .ok (.aload_n 0, 1) := by decide +kernel
theorem dX6_putPlants_59 : decode cX6_putPlants 59 = .ok (.dup, 1) := by decide +kernel
theorem dX6_putPlants_60 : decode cX6_putPlants 60 = .ok (.getfield 60, 3) := by decide +kernel
theorem dX6_putPlants_63 : decode cX6_putPlants 63 = .ok (.iload_n 2, 1) := by decide +kernel
theorem dX6_putPlants_64 : decode cX6_putPlants 64 = .ok (.iadd, 1) := by decide +kernel
theorem dX6_putPlants_65 : decode cX6_putPlants 65 = .ok (.putfield 60, 3) := by decide +kernel
theorem dX6_putPlants_68 : decode cX6_putPlants 68 = .ok (.aload_n 0, 1) := by decide +kernel
theorem dX6_putPlants_69 : decode cX6_putPlants 69 = .ok (.getfield 9, 3) := by decide +kernel
theorem dX6_putPlants_72 : decode cX6_putPlants 72 = .ok (.iload_n 1, 1) := by decide +kernel
theorem dX6_putPlants_73 : decode cX6_putPlants 73 = .ok (.iaload, 1) := by decide +kernel
theorem dX6_putPlants_74 : decode cX6_putPlants 74 = .ok (.ireturn, 1) := by decide +kernel
set_option maxRecDepth 20000 in
theorem ggX6_changeTolerance_X12_isBalcony : GoodIn wsX6_changeTolerance wsX12_isBalcony := goodIn_r _ [4] (by decide +kernel) (by decide +kernel)
set_option maxRecDepth 20000 in
theorem gX6_changeTolerance_X12_isBalcony_n82 : GoodIn wsX6_changeTolerance (wsX12_isBalcony) := ggX6_changeTolerance_X12_isBalcony
set_option maxRecDepth 20000 in
theorem ggX6_changeTolerance_X11_note : GoodIn wsX6_changeTolerance wsX11_note := goodIn_r _ [9, 10, 11, 12, 13, 24, 25, 26, 27] (by decide +kernel) (by decide +kernel)
set_option maxRecDepth 20000 in
theorem gX6_changeTolerance_X11_note : GoodIn wsX6_changeTolerance (wsV RX6 86 RX11 yX11_note wsX11_note) := goodIn_app (goodIn_of _ (by decide +kernel)) ggX6_changeTolerance_X11_note
theorem dX6_changeTolerance_0 : decode cX6_changeTolerance 0 = .ok (.iload_n 1, 1) := by decide +kernel
theorem dX6_changeTolerance_1 : decode cX6_changeTolerance 1 = .ok (.invokestatic 82, 3) := by decide +kernel
theorem dX6_changeTolerance_4 : decode cX6_changeTolerance 4 = .ok (.ifCond .ne 5, 3) := by decide +kernel
theorem dX6_changeTolerance_7 : decode cX6_changeTolerance 7 = .ok (.iconst (-1), 1) := by decide +kernel
theorem dX6_changeTolerance_8 : decode cX6_changeTolerance 8 = .ok (.ireturn, 1) := by decide +kernel
theorem dX6_changeTolerance_9 : decode cX6_changeTolerance 9 = .ok (.iload_n 2, 1) := by decide +kernel
theorem dX6_changeTolerance_10 : decode cX6_changeTolerance 10 = .ok (.ifCond .lt 9, 3) := by decide +kernel
theorem dX6_changeTolerance_13 : decode cX6_changeTolerance 13 = .ok (.iload_n 2, 1) := by decide +kernel
theorem dX6_changeTolerance_14 : decode cX6_changeTolerance 14 = .ok (.bipush 9, 2) := by decide +kernel
theorem dX6_changeTolerance_16 : decode cX6_changeTolerance 16 = .ok (.if_icmp .le 6, 3) := by decide +kernel
theorem dX6_changeTolerance_19 : decode cX6_changeTolerance 19 = .ok (.bipush (-2), 2) := by decide +kernel
theorem dX6_changeTolerance_21 : decode cX6_changeTolerance 21 = .ok (.ireturn, 1) := by decide +kernel
theorem dX6_changeTolerance_22 : decode cX6_changeTolerance 22 = .ok (.aload_n 0, 1) := by decide +kernel
theorem dX6_changeTolerance_23 : decode cX6_changeTolerance 23 = .ok (.getfield 15, 3) := by decide +kernel
theorem dX6_changeTolerance_26 : decode cX6_changeTolerance 26 = .ok (.iload_n 1, 1) := by decide +kernel
theorem dX6_changeTolerance_27 : decode cX6_changeTolerance 27 = .ok (.iaload, 1) := by decide +kernel
theorem dX6_changeTolerance_28 : decode cX6_changeTolerance 28 = .ok (.istore 4, 2) := by decide +kernel
theorem dX6_changeTolerance_30 : decode cX6_changeTolerance 30 = .ok (.iload_n 2, 1) := by decide +kernel
theorem dX6_changeTolerance_31 : decode cX6_changeTolerance 31 = .ok (.iload 4, 2) := by decide +kernel
theorem dX6_changeTolerance_33 : decode cX6_changeTolerance 33 = .ok (.if_icmp .ne 11, 3) := by decide +kernel
theorem dX6_changeTolerance_36 : decode cX6_changeTolerance 36 = .ok (.aload_n 3, 1) := by decide +kernel
theorem dX6_changeTolerance_37 : decode cX6_changeTolerance 37 = .ok (.iconst 3, 1) := by decide +kernel
theorem dX6_changeTolerance_38 : decode cX6_changeTolerance 38 = .ok (.iload 4, 2) := by decide +kernel
theorem dX6_changeTolerance_40 : decode cX6_changeTolerance 40 = .ok (.invokevirtual 86, 3) := by decide +kernel
theorem dX6_changeTolerance_43 : decode cX6_changeTolerance 43 = .ok (.ireturn, 1) := by decide +kernel
theorem dX6_changeTolerance_44 : decode cX6_changeTolerance 44 = .ok (.aload_n 0, 1) := by decide +kernel
theorem dX6_changeTolerance_45 : decode cX6_changeTolerance 45 = .ok (.getfield 15, 3) := by decide +kernel
theorem dX6_changeTolerance_48 : decode cX6_changeTolerance 48 = .ok (.iload_n 1, 1) := by decide +kernel
theorem dX6_changeTolerance_49 : decode cX6_changeTolerance 49 = .ok (.iload_n 2, 1) := by decide +kernel
theorem dX6_changeTolerance_50 : decode cX6_changeTolerance 50 = .ok (.iastore, 1) := by decide +kernel
theorem dX6_changeTolerance_51 : decode cX6_changeTolerance 51 = .ok (.iload 4, 2) := by decide +kernel
theorem dX6_changeTolerance_53 : decode cX6_changeTolerance 53 = .ok (.ireturn, 1) := by decide +kernel
set_option maxRecDepth 20000 in
theorem ggX6_hangLine_X12_areBalconies : GoodIn wsX6_hangLine wsX12_areBalconies := goodIn_r _ [6, 7, 8, 5, 9] (by decide +kernel) (by decide +kernel)
set_option maxRecDepth 20000 in
theorem gX6_hangLine_X12_areBalconies_n92 : GoodIn wsX6_hangLine (wsX12_areBalconies) := ggX6_hangLine_X12_areBalconies
set_option maxRecDepth 20000 in
theorem ggX6_hangLine_X11_note : GoodIn wsX6_hangLine wsX11_note := goodIn_r _ [14, 15, 16, 17, 18, 55, 56, 57, 58] (by decide +kernel) (by decide +kernel)
set_option maxRecDepth 20000 in
theorem gX6_hangLine_X11_note : GoodIn wsX6_hangLine (wsV RX6 86 RX11 yX11_note wsX11_note) := goodIn_app (goodIn_of _ (by decide +kernel)) ggX6_hangLine_X11_note
set_option maxRecDepth 20000 in
theorem ggX6_hangLine_X7_between : GoodIn wsX6_hangLine wsX7_between := goodIn_r _ [23, 24, 25, 26, 50, 51, 52, 53, 54] (by decide +kernel) (by decide +kernel)
set_option maxRecDepth 20000 in
theorem gX6_hangLine_X7_between : GoodIn wsX6_hangLine (wsV RX6 96 RX7 yX7_between wsX7_between) := goodIn_app (goodIn_of _ (by decide +kernel)) ggX6_hangLine_X7_between
set_option maxRecDepth 20000 in
theorem ggX6_hangLine_X7_add : GoodIn wsX6_hangLine wsX7_add := goodIn_r _ [30, 24, 25, 31, 32, 33, 34, 26, 35, 36, 37, 38, 39, 50, 51, 52, 53, 54] (by decide +kernel) (by decide +kernel)
set_option maxRecDepth 20000 in
theorem gX6_hangLine_X7_add : GoodIn wsX6_hangLine (wsV RX6 105 RX7 yX7_add wsX7_add) := goodIn_app (goodIn_of _ (by decide +kernel)) ggX6_hangLine_X7_add
theorem dX6_hangLine_0 : decode cX6_hangLine 0 = .ok (.iload_n 1, 1) := by decide +kernel
theorem dX6_hangLine_1 : decode cX6_hangLine 1 = .ok (.iload_n 2, 1) := by decide +kernel
theorem dX6_hangLine_2 : decode cX6_hangLine 2 = .ok (.invokestatic 92, 3) := by decide +kernel
theorem dX6_hangLine_5 : decode cX6_hangLine 5 = .ok (.ifCond .ne 5, 3) := by decide +kernel
theorem dX6_hangLine_8 : decode cX6_hangLine 8 = .ok (.iconst (-1), 1) := by decide +kernel
theorem dX6_hangLine_9 : decode cX6_hangLine 9 = .ok (.ireturn, 1) := by decide +kernel
theorem dX6_hangLine_10 : decode cX6_hangLine 10 = .ok (.iload_n 3, 1) := by decide +kernel
theorem dX6_hangLine_11 : decode cX6_hangLine 11 = .ok (.iconst 1, 1) := by decide +kernel
theorem dX6_hangLine_12 : decode cX6_hangLine 12 = .ok (.if_icmp .lt 9, 3) := by decide +kernel
theorem dX6_hangLine_15 : decode cX6_hangLine 15 = .ok (.iload_n 3, 1) := by decide +kernel
theorem dX6_hangLine_16 : decode cX6_hangLine 16 = .ok (.bipush 9, 2) := by decide +kernel
theorem dX6_hangLine_18 : decode cX6_hangLine 18 = .ok (.if_icmp .le 6, 3) := by decide +kernel
theorem dX6_hangLine_21 : decode cX6_hangLine 21 = .ok (.bipush (-2), 2) := by decide +kernel
theorem dX6_hangLine_23 : decode cX6_hangLine 23 = .ok (.ireturn, 1) := by decide +kernel
theorem dX6_hangLine_24 : decode cX6_hangLine 24 = .ok (.iload_n 1, 1) := by decide +kernel
theorem dX6_hangLine_25 : decode cX6_hangLine 25 = .ok (.iload_n 2, 1) := by decide +kernel
theorem dX6_hangLine_26 : decode cX6_hangLine 26 = .ok (.if_icmp .ne 11, 3) := by decide +kernel
theorem dX6_hangLine_29 : decode cX6_hangLine 29 = .ok (.aload 4, 2) := by decide +kernel
theorem dX6_hangLine_31 : decode cX6_hangLine 31 = .ok (.iconst 2, 1) := by decide +kernel
theorem dX6_hangLine_32 : decode cX6_hangLine 32 = .ok (.iload_n 1, 1) := by decide +kernel
theorem dX6_hangLine_33 : decode cX6_hangLine 33 = .ok (.invokevirtual 86, 3) := by decide +kernel
theorem dX6_hangLine_36 : decode cX6_hangLine 36 = .ok (.ireturn, 1) := by decide +kernel
theorem dX6_hangLine_37 : decode cX6_hangLine 37 = .ok (.aload_n 0, 1) := by decide +kernel
theorem dX6_hangLine_38 : decode cX6_hangLine 38 = .ok (.getfield 21, 3) := by decide +kernel
theorem dX6_hangLine_41 : decode cX6_hangLine 41 = .ok (.iload_n 1, 1) := by decide +kernel
theorem dX6_hangLine_42 : decode cX6_hangLine 42 = .ok (.iload_n 2, 1) := by decide +kernel
theorem dX6_hangLine_43 : decode cX6_hangLine 43 = .ok (.invokevirtual 96, 3) := by decide +kernel
theorem dX6_hangLine_46 : decode cX6_hangLine 46 = .ok (.istore 5, 2) := by decide +kernel
theorem dX6_hangLine_48 : decode cX6_hangLine 48 = .ok (.iload 5, 2) := by decide +kernel
theorem dX6_hangLine_50 : decode cX6_hangLine 50 = .ok (.ifCond .lt 20, 3) := by decide +kernel
theorem dX6_hangLine_53 : decode cX6_hangLine 53 = .ok (.aload 4, 2) := by decide +kernel
theorem dX6_hangLine_55 : decode cX6_hangLine 55 = .ok (.iconst 3, 1) := by decide +kernel
theorem dX6_hangLine_56 : decode cX6_hangLine 56 = .ok (.aload_n 0, 1) := by decide +kernel
theorem dX6_hangLine_57 : decode cX6_hangLine 57 = .ok (.getfield 21, 3) := by decide +kernel
theorem dX6_hangLine_60 : decode cX6_hangLine 60 = .ok (.getfield 99, 3) := by decide +kernel
theorem dX6_hangLine_63 : decode cX6_hangLine 63 = .ok (.iload 5, 2) := by decide +kernel
theorem dX6_hangLine_65 : decode cX6_hangLine 65 = .ok (.iaload, 1) := by decide +kernel
theorem dX6_hangLine_66 : decode cX6_hangLine 66 = .ok (.invokevirtual 86, 3) := by decide +kernel
theorem dX6_hangLine_69 : decode cX6_hangLine 69 = .ok (.ireturn, 1) := by decide +kernel
theorem dX6_hangLine_70 : decode cX6_hangLine 70 = .ok (.aload_n 0, 1) := by decide +kernel
theorem dX6_hangLine_71 : decode cX6_hangLine 71 = .ok (.getfield 21, 3) := by decide +kernel
theorem dX6_hangLine_74 : decode cX6_hangLine 74 = .ok (.getfield 102, 3) := by decide +kernel
theorem dX6_hangLine_77 : decode cX6_hangLine 77 = .ok (.bipush 6, 2) := by decide +kernel
theorem dX6_hangLine_79 : decode cX6_hangLine 79 = .ok (.if_icmp .lt 12, 3) := by decide +kernel
theorem dX6_hangLine_82 : decode cX6_hangLine 82 = .ok (.aload 4, 2) := by decide +kernel
theorem dX6_hangLine_84 : decode cX6_hangLine 84 = .ok (.iconst 1, 1) := by decide +kernel
theorem dX6_hangLine_85 : decode cX6_hangLine 85 = .ok (.bipush 6, 2) := by decide +kernel
theorem dX6_hangLine_87 : decode cX6_hangLine 87 = .ok (.invokevirtual 86, 3) := by decide +kernel
theorem dX6_hangLine_90 : decode cX6_hangLine 90 = .ok (.ireturn, 1) := by decide +kernel
theorem dX6_hangLine_91 : decode cX6_hangLine 91 = .ok (.aload_n 0, 1) := by decide +kernel
theorem dX6_hangLine_92 : decode cX6_hangLine 92 = .ok (.getfield 21, 3) := by decide +kernel
theorem dX6_hangLine_95 : decode cX6_hangLine 95 = .ok (.iload_n 1, 1) := by decide +kernel
theorem dX6_hangLine_96 : decode cX6_hangLine 96 = .ok (.iload_n 2, 1) := by decide +kernel
theorem dX6_hangLine_97 : decode cX6_hangLine 97 = .ok (.iload_n 3, 1) := by decide +kernel
theorem dX6_hangLine_98 : decode cX6_hangLine 98 = .ok (.invokevirtual 105, 3) := by decide +kernel
theorem dX6_hangLine_101 : decode cX6_hangLine 101 = .ok (.ireturn, 1) := by decide +kernel
set_option maxRecDepth 20000 in
theorem ggX6_letGreet_X12_areBalconies : GoodIn wsX6_letGreet wsX12_areBalconies := goodIn_r _ [8, 9, 10, 7, 11] (by decide +kernel) (by decide +kernel)
set_option maxRecDepth 20000 in
theorem gX6_letGreet_X12_areBalconies_n92 : GoodIn wsX6_letGreet (wsX12_areBalconies) := ggX6_letGreet_X12_areBalconies
set_option maxRecDepth 20000 in
theorem ggX6_letGreet_X11_note : GoodIn wsX6_letGreet wsX11_note := goodIn_r _ [16, 17, 18, 19, 20, 66, 67, 68, 69] (by decide +kernel) (by decide +kernel)
set_option maxRecDepth 20000 in
theorem gX6_letGreet_X11_note : GoodIn wsX6_letGreet (wsV RX6 86 RX11 yX11_note wsX11_note) := goodIn_app (goodIn_of _ (by decide +kernel)) ggX6_letGreet_X11_note
set_option maxRecDepth 20000 in
theorem ggX6_letGreet_X6_isFeud : GoodIn wsX6_letGreet wsX6_isFeud := goodIn_r _ [25, 1, 2, 3, 4, 26, 27, 28, 29, 30, 31, 32, 33, 34, 35, 36, 37, 38, 39, 56, 57, 58, 59, 60, 61, 62, 63, 64, 65, 70, 71, 72, 73, 74] (by decide +kernel) (by decide +kernel)
set_option maxRecDepth 20000 in
theorem gX6_letGreet_X6_isFeud : GoodIn wsX6_letGreet (wsV RX6 109 RX6 yX6_isFeud wsX6_isFeud) := goodIn_app (goodIn_of _ (by decide +kernel)) ggX6_letGreet_X6_isFeud
set_option maxRecDepth 20000 in
theorem ggX6_letGreet_X4_isToday : GoodIn wsX6_letGreet wsX4_isToday := goodIn_r _ [44, 45, 75, 76] (by decide +kernel) (by decide +kernel)
set_option maxRecDepth 20000 in
theorem gX6_letGreet_X4_isToday : GoodIn wsX6_letGreet (wsV RX6 117 RX4 yX4_isToday wsX4_isToday) := goodIn_app (goodIn_of _ (by decide +kernel)) ggX6_letGreet_X4_isToday
set_option maxRecDepth 20000 in
theorem ggX6_letGreet_X4_countOf : GoodIn wsX6_letGreet wsX4_countOf := goodIn_r _ [49, 50, 75, 76] (by decide +kernel) (by decide +kernel)
set_option maxRecDepth 20000 in
theorem gX6_letGreet_X4_countOf : GoodIn wsX6_letGreet (wsV RX6 120 RX4 yX4_countOf wsX4_countOf) := goodIn_app (goodIn_of _ (by decide +kernel)) ggX6_letGreet_X4_countOf
set_option maxRecDepth 20000 in
theorem ggX6_letGreet_X4_add : GoodIn wsX6_letGreet wsX4_add := goodIn_r _ [54, 50, 45, 55, 47, 48, 43, 49, 75, 76] (by decide +kernel) (by decide +kernel)
set_option maxRecDepth 20000 in
theorem gX6_letGreet_X4_add : GoodIn wsX6_letGreet (wsV RX6 123 RX4 yX4_add wsX4_add) := goodIn_app (goodIn_of _ (by decide +kernel)) ggX6_letGreet_X4_add
theorem dX6_letGreet_0 : decode cX6_letGreet 0 = .ok (.iload_n 1, 1) := by decide +kernel
theorem dX6_letGreet_1 : decode cX6_letGreet 1 = .ok (.iload_n 2, 1) := by decide +kernel
theorem dX6_letGreet_2 : decode cX6_letGreet 2 = .ok (.invokestatic 92, 3) := by decide +kernel
theorem dX6_letGreet_5 : decode cX6_letGreet 5 = .ok (.ifCond .ne 5, 3) := by decide +kernel
theorem dX6_letGreet_8 : decode cX6_letGreet 8 = .ok (.iconst (-1), 1) := by decide +kernel
theorem dX6_letGreet_9 : decode cX6_letGreet 9 = .ok (.ireturn, 1) := by decide +kernel
theorem dX6_letGreet_10 : decode cX6_letGreet 10 = .ok (.iload_n 1, 1) := by decide +kernel
theorem dX6_letGreet_11 : decode cX6_letGreet 11 = .ok (.iload_n 2, 1) := by decide +kernel
theorem dX6_letGreet_12 : decode cX6_letGreet 12 = .ok (.if_icmp .ne 10, 3) := by decide +kernel
theorem dX6_letGreet_15 : decode cX6_letGreet 15 = .ok (.aload_n 3, 1) := by decide +kernel
theorem dX6_letGreet_16 : decode cX6_letGreet 16 = .ok (.iconst 2, 1) := by decide +kernel
theorem dX6_letGreet_17 : decode cX6_letGreet 17 = .ok (.iload_n 1, 1) := by decide +kernel
theorem dX6_letGreet_18 : decode cX6_letGreet 18 = .ok (.invokevirtual 86, 3) := by decide +kernel
theorem dX6_letGreet_21 : decode cX6_letGreet 21 = .ok (.ireturn, 1) := by decide +kernel
theorem dX6_letGreet_22 : decode cX6_letGreet 22 = .ok (.aload_n 0, 1) := by decide +kernel
theorem dX6_letGreet_23 : decode cX6_letGreet 23 = .ok (.iload_n 1, 1) := by decide +kernel
theorem dX6_letGreet_24 : decode cX6_letGreet 24 = .ok (.iload_n 2, 1) := by decide +kernel
theorem dX6_letGreet_25 : decode cX6_letGreet 25 = .ok (.invokevirtual 109, 3) := by decide +kernel
theorem dX6_letGreet_28 : decode cX6_letGreet 28 = .ok (.ifCond .eq 14, 3) := by decide +kernel
theorem dX6_letGreet_31 : decode cX6_letGreet 31 = .ok (.aload_n 3, 1) := by decide +kernel
theorem dX6_letGreet_32 : decode cX6_letGreet 32 = .ok (.iconst 5, 1) := by decide +kernel
theorem dX6_letGreet_33 : decode cX6_letGreet 33 = .ok (.iload_n 1, 1) := by decide +kernel
theorem dX6_letGreet_34 : decode cX6_letGreet 34 = .ok (.iload_n 2, 1) := by decide +kernel
theorem dX6_letGreet_35 : decode cX6_letGreet 35 = .ok (.invokestatic 112, 3) := by decide +kernel
theorem dX6_letGreet_38 : decode cX6_letGreet 38 = .ok (.invokevirtual 86, 3) := by decide +kernel
theorem dX6_letGreet_41 : decode cX6_letGreet 41 = .ok (.ireturn, 1) := by decide +kernel
theorem dX6_letGreet_42 : decode cX6_letGreet 42 = .ok (.aload_n 0, 1) := by decide +kernel
theorem dX6_letGreet_43 : decode cX6_letGreet 43 = .ok (.getfield 28, 3) := by decide +kernel
theorem dX6_letGreet_46 : decode cX6_letGreet 46 = .ok (.iload_n 1, 1) := by decide +kernel
theorem dX6_letGreet_47 : decode cX6_letGreet 47 = .ok (.iload_n 2, 1) := by decide +kernel
theorem dX6_letGreet_48 : decode cX6_letGreet 48 = .ok (.invokevirtual 117, 3) := by decide +kernel
theorem dX6_letGreet_51 : decode cX6_letGreet 51 = .ok (.ifCond .eq 19, 3) := by decide +kernel
theorem dX6_letGreet_54 : decode cX6_letGreet 54 = .ok (.aload_n 3, 1) := by decide +kernel
theorem dX6_letGreet_55 : decode cX6_letGreet 55 = .ok (.bipush 7, 2) := by decide +kernel
theorem dX6_letGreet_57 : decode cX6_letGreet 57 = .ok (.aload_n 0, 1) := by decide +kernel
theorem dX6_letGreet_58 : decode cX6_letGreet 58 = .ok (.getfield 28, 3) := by decide +kernel
theorem dX6_letGreet_61 : decode cX6_letGreet 61 = .ok (.iload_n 1, 1) := by decide +kernel
theorem dX6_letGreet_62 : decode cX6_letGreet 62 = .ok (.iload_n 2, 1) := by decide +kernel
theorem dX6_letGreet_63 : decode cX6_letGreet 63 = .ok (.invokevirtual 120, 3) := by decide +kernel
theorem dX6_letGreet_66 : decode cX6_letGreet 66 = .ok (.invokevirtual 86, 3) := by decide +kernel
theorem dX6_letGreet_69 : decode cX6_letGreet 69 = .ok (.ireturn, 1) := by decide +kernel
theorem dX6_letGreet_70 : decode cX6_letGreet 70 = .ok (.aload_n 0, 1) := by decide +kernel
theorem dX6_letGreet_71 : decode cX6_letGreet 71 = .ok (.getfield 28, 3) := by decide +kernel
theorem dX6_letGreet_74 : decode cX6_letGreet 74 = .ok (.iload_n 1, 1) := by decide +kernel
theorem dX6_letGreet_75 : decode cX6_letGreet 75 = .ok (.iload_n 2, 1) := by decide +kernel
theorem dX6_letGreet_76 : decode cX6_letGreet 76 = .ok (.invokevirtual 123, 3) := by decide +kernel
theorem dX6_letGreet_79 : decode cX6_letGreet 79 = .ok (.ireturn, 1) := by decide +kernel
set_option maxRecDepth 20000 in
theorem ggX6_givePlants_X12_areBalconies : GoodIn wsX6_givePlants wsX12_areBalconies := goodIn_r _ [9, 10, 11, 8, 12] (by decide +kernel) (by decide +kernel)
set_option maxRecDepth 20000 in
theorem gX6_givePlants_X12_areBalconies_n92 : GoodIn wsX6_givePlants (wsX12_areBalconies) := ggX6_givePlants_X12_areBalconies
set_option maxRecDepth 20000 in
theorem ggX6_givePlants_X11_note : GoodIn wsX6_givePlants wsX11_note := goodIn_r _ [17, 18, 19, 20, 21, 50, 51, 52, 53] (by decide +kernel) (by decide +kernel)
set_option maxRecDepth 20000 in
theorem gX6_givePlants_X11_note : GoodIn wsX6_givePlants (wsV RX6 86 RX11 yX11_note wsX11_note) := goodIn_app (goodIn_of _ (by decide +kernel)) ggX6_givePlants_X11_note
set_option maxRecDepth 20000 in
theorem ggX6_givePlants_X6_isFeud : GoodIn wsX6_givePlants wsX6_isFeud := goodIn_r _ [26, 1, 2, 3, 4, 27, 28, 29, 5, 30, 31, 32, 33, 34, 35, 36, 37, 38, 39, 40, 41, 42, 43, 44, 45, 46, 47, 48, 49, 54, 55, 56, 57, 58] (by decide +kernel) (by decide +kernel)
set_option maxRecDepth 20000 in
theorem gX6_givePlants_X6_isFeud : GoodIn wsX6_givePlants (wsV RX6 109 RX6 yX6_isFeud wsX6_isFeud) := goodIn_app (goodIn_of _ (by decide +kernel)) ggX6_givePlants_X6_isFeud
theorem dX6_givePlants_0 : decode cX6_givePlants 0 = .ok (.iload_n 1, 1) := by decide +kernel
theorem dX6_givePlants_1 : decode cX6_givePlants 1 = .ok (.iload_n 2, 1) := by decide +kernel
theorem dX6_givePlants_2 : decode cX6_givePlants 2 = .ok (.invokestatic 92, 3) := by decide +kernel
theorem dX6_givePlants_5 : decode cX6_givePlants 5 = .ok (.ifCond .ne 5, 3) := by decide +kernel
theorem dX6_givePlants_8 : decode cX6_givePlants 8 = .ok (.iconst (-1), 1) := by decide +kernel
theorem dX6_givePlants_9 : decode cX6_givePlants 9 = .ok (.ireturn, 1) := by decide +kernel
theorem dX6_givePlants_10 : decode cX6_givePlants 10 = .ok (.iload_n 3, 1) := by decide +kernel
theorem dX6_givePlants_11 : decode cX6_givePlants 11 = .ok (.iconst 1, 1) := by decide +kernel
theorem dX6_givePlants_12 : decode cX6_givePlants 12 = .ok (.if_icmp .lt 9, 3) := by decide +kernel
theorem dX6_givePlants_15 : decode cX6_givePlants 15 = .ok (.iload_n 3, 1) := by decide +kernel
theorem dX6_givePlants_16 : decode cX6_givePlants 16 = .ok (.bipush 9, 2) := by decide +kernel
theorem dX6_givePlants_18 : decode cX6_givePlants 18 = .ok (.if_icmp .le 6, 3) := by decide +kernel
theorem dX6_givePlants_21 : decode cX6_givePlants 21 = .ok (.bipush (-2), 2) := by decide +kernel
theorem dX6_givePlants_23 : decode cX6_givePlants 23 = .ok (.ireturn, 1) := by decide +kernel
theorem dX6_givePlants_24 : decode cX6_givePlants 24 = .ok (.iload_n 1, 1) := by decide +kernel
theorem dX6_givePlants_25 : decode cX6_givePlants 25 = .ok (.iload_n 2, 1) := by decide +kernel
theorem dX6_givePlants_26 : decode cX6_givePlants 26 = .ok (.if_icmp .ne 11, 3) := by decide +kernel
theorem dX6_givePlants_29 : decode cX6_givePlants 29 = .ok (.aload 4, 2) := by decide +kernel
theorem dX6_givePlants_31 : decode cX6_givePlants 31 = .ok (.iconst 2, 1) := by decide +kernel
theorem dX6_givePlants_32 : decode cX6_givePlants 32 = .ok (.iload_n 1, 1) := by decide +kernel
theorem dX6_givePlants_33 : decode cX6_givePlants 33 = .ok (.invokevirtual 86, 3) := by decide +kernel
theorem dX6_givePlants_36 : decode cX6_givePlants 36 = .ok (.ireturn, 1) := by decide +kernel
theorem dX6_givePlants_37 : decode cX6_givePlants 37 = .ok (.aload_n 0, 1) := by decide +kernel
theorem dX6_givePlants_38 : decode cX6_givePlants 38 = .ok (.iload_n 1, 1) := by decide +kernel
theorem dX6_givePlants_39 : decode cX6_givePlants 39 = .ok (.iload_n 2, 1) := by decide +kernel
theorem dX6_givePlants_40 : decode cX6_givePlants 40 = .ok (.invokevirtual 109, 3) := by decide +kernel
theorem dX6_givePlants_43 : decode cX6_givePlants 43 = .ok (.ifCond .eq 15, 3) := by decide +kernel
theorem dX6_givePlants_46 : decode cX6_givePlants 46 = .ok (.aload 4, 2) := by decide +kernel
theorem dX6_givePlants_48 : decode cX6_givePlants 48 = .ok (.iconst 5, 1) := by decide +kernel
theorem dX6_givePlants_49 : decode cX6_givePlants 49 = .ok (.iload_n 1, 1) := by decide +kernel
theorem dX6_givePlants_50 : decode cX6_givePlants 50 = .ok (.iload_n 2, 1) := by decide +kernel
theorem dX6_givePlants_51 : decode cX6_givePlants 51 = .ok (.invokestatic 112, 3) := by decide +kernel
theorem dX6_givePlants_54 : decode cX6_givePlants 54 = .ok (.invokevirtual 86, 3) := by decide +kernel
theorem dX6_givePlants_57 : decode cX6_givePlants 57 = .ok (.ireturn, 1) := by decide +kernel
theorem dX6_givePlants_58 : decode cX6_givePlants 58 = .ok (.aload_n 0, 1) := by decide +kernel
theorem dX6_givePlants_59 : decode cX6_givePlants 59 = .ok (.getfield 9, 3) := by decide +kernel
theorem dX6_givePlants_62 : decode cX6_givePlants 62 = .ok (.iload_n 1, 1) := by decide +kernel
theorem dX6_givePlants_63 : decode cX6_givePlants 63 = .ok (.iaload, 1) := by decide +kernel
theorem dX6_givePlants_64 : decode cX6_givePlants 64 = .ok (.iload_n 3, 1) := by decide +kernel
theorem dX6_givePlants_65 : decode cX6_givePlants 65 = .ok (.if_icmp .ge 17, 3) := by decide +kernel
theorem dX6_givePlants_68 : decode cX6_givePlants 68 = .ok (.aload 4, 2) := by decide +kernel
theorem dX6_givePlants_70 : decode cX6_givePlants 70 = .ok (.bipush 6, 2) := by decide +kernel
theorem dX6_givePlants_72 : decode cX6_givePlants 72 = .ok (.aload_n 0, 1) := by decide +kernel
theorem dX6_givePlants_73 : decode cX6_givePlants 73 = .ok (.getfield 9, 3) := by decide +kernel
theorem dX6_givePlants_76 : decode cX6_givePlants 76 = .ok (.iload_n 1, 1) := by decide +kernel
theorem dX6_givePlants_77 : decode cX6_givePlants 77 = .ok (.iaload, 1) := by decide +kernel
theorem dX6_givePlants_78 : decode cX6_givePlants 78 = .ok (.invokevirtual 86, 3) := by decide +kernel
theorem dX6_givePlants_81 : decode cX6_givePlants 81 = .ok (.ireturn, 1) := by decide +kernel
theorem dX6_givePlants_82 : decode cX6_givePlants 82 = .ok (.aload_n 0, 1) := by decide +kernel
theorem dX6_givePlants_83 : decode cX6_givePlants 83 = .ok (.getfield 9, 3) := by decide +kernel
theorem dX6_givePlants_86 : decode cX6_givePlants 86 = .ok (.iload_n 2, 1) := by decide +kernel
theorem dX6_givePlants_87 : decode cX6_givePlants 87 = .ok (.iaload, 1) := by decide +kernel
theorem dX6_givePlants_88 : decode cX6_givePlants 88 = .ok (.iload_n 3, 1) := by decide +kernel
theorem dX6_givePlants_89 : decode cX6_givePlants 89 = .ok (.iadd, 1) := by decide +kernel
theorem dX6_givePlants_90 : decode cX6_givePlants 90 = .ok (.bipush 9, 2) := by decide +kernel
theorem dX6_givePlants_92 : decode cX6_givePlants 92 = .ok (.if_icmp .le 16, 3) := by decide +kernel
theorem dX6_givePlants_95 : decode cX6_givePlants 95 = .ok (.aload 4, 2) := by decide +kernel
theorem dX6_givePlants_97 : decode cX6_givePlants 97 = .ok (.iconst 4, 1) := by decide +kernel
theorem dX6_givePlants_98 : decode cX6_givePlants 98 = .ok (.aload_n 0, 1) := by decide +kernel
theorem dX6_givePlants_99 : decode cX6_givePlants 99 = .ok (.getfield 9, 3) := by decide +kernel
theorem dX6_givePlants_102 : decode cX6_givePlants 102 = .ok (.iload_n 2, 1) := by decide +kernel
theorem dX6_givePlants_103 : decode cX6_givePlants 103 = .ok (.iaload, 1) := by decide +kernel
theorem dX6_givePlants_104 : decode cX6_givePlants 104 = .ok (.invokevirtual 86, 3) := by decide +kernel
theorem dX6_givePlants_107 : decode cX6_givePlants 107 = .ok (.ireturn, 1) := by decide +kernel
theorem dX6_givePlants_108 : decode cX6_givePlants 108 = .ok (.aload_n 0, 1) := by decide +kernel
theorem dX6_givePlants_109 : decode cX6_givePlants 109 = .ok (.getfield 9, 3) := by decide +kernel
theorem dX6_givePlants_112 : decode cX6_givePlants 112 = .ok (.iload_n 1, 1) := by decide +kernel
theorem dX6_givePlants_113 : decode cX6_givePlants 113 = .ok (.dup2, 1) := by decide +kernel
theorem dX6_givePlants_114 : decode cX6_givePlants 114 = .ok (.iaload, 1) := by decide +kernel
theorem dX6_givePlants_115 : decode cX6_givePlants 115 = .ok (.iload_n 3, 1) := by decide +kernel
theorem dX6_givePlants_116 : decode cX6_givePlants 116 = .ok (.isub, 1) := by decide +kernel
theorem dX6_givePlants_117 : decode cX6_givePlants 117 = .ok (.iastore, 1) := by decide +kernel
theorem dX6_givePlants_118 : decode cX6_givePlants 118 = .ok (.aload_n 0, 1) := by decide +kernel
theorem dX6_givePlants_119 : decode cX6_givePlants 119 = .ok (.getfield 9, 3) := by decide +kernel
theorem dX6_givePlants_122 : decode cX6_givePlants 122 = .ok (.iload_n 2, 1) := by decide +kernel
theorem dX6_givePlants_123 : decode cX6_givePlants 123 = .ok (.dup2, 1) := by decide +kernel
theorem dX6_givePlants_124 : decode cX6_givePlants 124 = .ok (.iaload, 1) := by decide +kernel
theorem dX6_givePlants_125 : decode cX6_givePlants 125 = .ok (.iload_n 3, 1) := by decide +kernel
theorem dX6_givePlants_126 : decode cX6_givePlants 126 = .ok (.iadd, 1) := by decide +kernel
theorem dX6_givePlants_127 : decode cX6_givePlants 127 = .ok (.iastore, 1) := by decide +kernel
theorem dX6_givePlants_128 : decode cX6_givePlants 128 = .ok (.aload_n 0, 1) := by decide +kernel
theorem dX6_givePlants_129 : decode cX6_givePlants 129 = .ok (.dup, 1) := by decide +kernel
theorem dX6_givePlants_130 : decode cX6_givePlants 130 = .ok (.getfield 57, 3) := by decide +kernel
theorem dX6_givePlants_133 : decode cX6_givePlants 133 = .ok (.iload_n 3, 1) := by decide +kernel
theorem dX6_givePlants_134 : decode cX6_givePlants 134 = .ok (.iadd, 1) := by decide +kernel
theorem dX6_givePlants_135 : decode cX6_givePlants 135 = .ok (.putfield 57, 3) := by decide +kernel
theorem dX6_givePlants_138 : decode cX6_givePlants 138 = .ok (.aload_n 0, 1) := by decide +kernel
theorem dX6_givePlants_139 : decode cX6_givePlants 139 = .ok (.getfield 9, 3) := by decide +kernel
theorem dX6_givePlants_142 : decode cX6_givePlants 142 = .ok (.iload_n 2, 1) := by decide +kernel
theorem dX6_givePlants_143 : decode cX6_givePlants 143 = .ok (.iaload, 1) := by decide +kernel
theorem dX6_givePlants_144 : decode cX6_givePlants 144 = .ok (.ireturn, 1) := by decide +kernel
set_option maxRecDepth 20000 in
theorem ggX6_letCatCome_X12_isBalcony : GoodIn wsX6_letCatCome wsX12_isBalcony := goodIn_r _ [5] (by decide +kernel) (by decide +kernel)
set_option maxRecDepth 20000 in
theorem gX6_letCatCome_X12_isBalcony_n82 : GoodIn wsX6_letCatCome (wsX12_isBalcony) := ggX6_letCatCome_X12_isBalcony
set_option maxRecDepth 20000 in
theorem ggX6_letCatCome_X1_catOn : GoodIn wsX6_letCatCome wsX1_catOn := goodIn_r _ [10, 11, 12, 38, 39, 40, 41] (by decide +kernel) (by decide +kernel)
set_option maxRecDepth 20000 in
theorem gX6_letCatCome_X1_catOn : GoodIn wsX6_letCatCome (wsV RX6 125 RX1 yX1_catOn wsX1_catOn) := goodIn_app (goodIn_of _ (by decide +kernel)) ggX6_letCatCome_X1_catOn
set_option maxRecDepth 20000 in
theorem ggX6_letCatCome_X11_note : GoodIn wsX6_letCatCome wsX11_note := goodIn_r _ [17, 18, 19, 20, 21, 42, 43, 44, 45] (by decide +kernel) (by decide +kernel)
set_option maxRecDepth 20000 in
theorem gX6_letCatCome_X11_note : GoodIn wsX6_letCatCome (wsV RX6 86 RX11 yX11_note wsX11_note) := goodIn_app (goodIn_of _ (by decide +kernel)) ggX6_letCatCome_X11_note
set_option maxRecDepth 20000 in
theorem ggX6_letCatCome_X1_add : GoodIn wsX6_letCatCome wsX1_add := goodIn_r _ [25, 11, 12, 26, 27, 38, 39, 40, 41] (by decide +kernel) (by decide +kernel)
set_option maxRecDepth 20000 in
theorem gX6_letCatCome_X1_add : GoodIn wsX6_letCatCome (wsV RX6 130 RX1 yX1_add wsX1_add) := goodIn_app (goodIn_of _ (by decide +kernel)) ggX6_letCatCome_X1_add
theorem dX6_letCatCome_0 : decode cX6_letCatCome 0 = .ok (.iload_n 1, 1) := by decide +kernel
theorem dX6_letCatCome_1 : decode cX6_letCatCome 1 = .ok (.invokestatic 82, 3) := by decide +kernel
theorem dX6_letCatCome_4 : decode cX6_letCatCome 4 = .ok (.ifCond .ne 5, 3) := by decide +kernel
theorem dX6_letCatCome_7 : decode cX6_letCatCome 7 = .ok (.iconst (-1), 1) := by decide +kernel
theorem dX6_letCatCome_8 : decode cX6_letCatCome 8 = .ok (.ireturn, 1) := by decide +kernel
theorem dX6_letCatCome_9 : decode cX6_letCatCome 9 = .ok (.aload_n 0, 1) := by decide +kernel
theorem dX6_letCatCome_10 : decode cX6_letCatCome 10 = .ok (.getfield 35, 3) := by decide +kernel
theorem dX6_letCatCome_13 : decode cX6_letCatCome 13 = .ok (.iload_n 1, 1) := by decide +kernel
theorem dX6_letCatCome_14 : decode cX6_letCatCome 14 = .ok (.invokevirtual 125, 3) := by decide +kernel
theorem dX6_letCatCome_17 : decode cX6_letCatCome 17 = .ok (.istore_n 3, 1) := by decide +kernel
theorem dX6_letCatCome_18 : decode cX6_letCatCome 18 = .ok (.iload_n 3, 1) := by decide +kernel
theorem dX6_letCatCome_19 : decode cX6_letCatCome 19 = .ok (.ifCond .lt 11, 3) := by decide +kernel
theorem dX6_letCatCome_22 : decode cX6_letCatCome 22 = .ok (.aload_n 2, 1) := by decide +kernel
theorem dX6_letCatCome_23 : decode cX6_letCatCome 23 = .ok (.bipush 8, 2) := by decide +kernel
theorem dX6_letCatCome_25 : decode cX6_letCatCome 25 = .ok (.iload_n 3, 1) := by decide +kernel
theorem dX6_letCatCome_26 : decode cX6_letCatCome 26 = .ok (.invokevirtual 86, 3) := by decide +kernel
theorem dX6_letCatCome_29 : decode cX6_letCatCome 29 = .ok (.ireturn, 1) := by decide +kernel
theorem dX6_letCatCome_30 : decode cX6_letCatCome 30 = .ok (.aload_n 0, 1) := by decide +kernel
theorem dX6_letCatCome_31 : decode cX6_letCatCome 31 = .ok (.getfield 35, 3) := by decide +kernel
theorem dX6_letCatCome_34 : decode cX6_letCatCome 34 = .ok (.getfield 129, 3) := by decide +kernel
theorem dX6_letCatCome_37 : decode cX6_letCatCome 37 = .ok (.bipush 6, 2) := by decide +kernel
theorem dX6_letCatCome_39 : decode cX6_letCatCome 39 = .ok (.if_icmp .lt 11, 3) := by decide +kernel
theorem dX6_letCatCome_42 : decode cX6_letCatCome 42 = .ok (.aload_n 2, 1) := by decide +kernel
theorem dX6_letCatCome_43 : decode cX6_letCatCome 43 = .ok (.iconst 1, 1) := by decide +kernel
theorem dX6_letCatCome_44 : decode cX6_letCatCome 44 = .ok (.bipush 6, 2) := by decide +kernel
theorem dX6_letCatCome_46 : decode cX6_letCatCome 46 = .ok (.invokevirtual 86, 3) := by decide +kernel
theorem dX6_letCatCome_49 : decode cX6_letCatCome 49 = .ok (.ireturn, 1) := by decide +kernel
theorem dX6_letCatCome_50 : decode cX6_letCatCome 50 = .ok (.aload_n 0, 1) := by decide +kernel
theorem dX6_letCatCome_51 : decode cX6_letCatCome 51 = .ok (.getfield 35, 3) := by decide +kernel
theorem dX6_letCatCome_54 : decode cX6_letCatCome 54 = .ok (.iload_n 1, 1) := by decide +kernel
theorem dX6_letCatCome_55 : decode cX6_letCatCome 55 = .ok (.invokevirtual 130, 3) := by decide +kernel
theorem dX6_letCatCome_58 : decode cX6_letCatCome 58 = .ok (.ireturn, 1) := by decide +kernel
set_option maxRecDepth 20000 in
theorem ggX6_swapCats_X12_areBalconies : GoodIn wsX6_swapCats wsX12_areBalconies := goodIn_r _ [9, 10, 11, 8, 12] (by decide +kernel) (by decide +kernel)
set_option maxRecDepth 20000 in
theorem gX6_swapCats_X12_areBalconies_n92 : GoodIn wsX6_swapCats (wsX12_areBalconies) := ggX6_swapCats_X12_areBalconies
set_option maxRecDepth 20000 in
theorem ggX6_swapCats_X11_note : GoodIn wsX6_swapCats wsX11_note := goodIn_r _ [17, 18, 19, 20, 21, 67, 68, 69, 70] (by decide +kernel) (by decide +kernel)
set_option maxRecDepth 20000 in
theorem gX6_swapCats_X11_note : GoodIn wsX6_swapCats (wsV RX6 86 RX11 yX11_note wsX11_note) := goodIn_app (goodIn_of _ (by decide +kernel)) ggX6_swapCats_X11_note
set_option maxRecDepth 20000 in
theorem ggX6_swapCats_X6_isFeud : GoodIn wsX6_swapCats wsX6_isFeud := goodIn_r _ [26, 1, 2, 3, 4, 27, 28, 29, 30, 31, 32, 33, 34, 35, 36, 37, 38, 39, 40, 53, 54, 55, 56, 57, 58, 59, 60, 61, 62, 71, 72, 73, 74, 75] (by decide +kernel) (by decide +kernel)
set_option maxRecDepth 20000 in
theorem gX6_swapCats_X6_isFeud : GoodIn wsX6_swapCats (wsV RX6 109 RX6 yX6_isFeud wsX6_isFeud) := goodIn_app (goodIn_of _ (by decide +kernel)) ggX6_swapCats_X6_isFeud
set_option maxRecDepth 20000 in
theorem ggX6_swapCats_X1_catOn : GoodIn wsX6_swapCats wsX1_catOn := goodIn_r _ [45, 46, 47, 63, 64, 65, 66] (by decide +kernel) (by decide +kernel)
set_option maxRecDepth 20000 in
theorem gX6_swapCats_X1_catOn : GoodIn wsX6_swapCats (wsV RX6 125 RX1 yX1_catOn wsX1_catOn) := goodIn_app (goodIn_of _ (by decide +kernel)) ggX6_swapCats_X1_catOn
set_option maxRecDepth 20000 in
theorem ggX6_swapCats_X1_move : GoodIn wsX6_swapCats wsX1_move := goodIn_r _ [51, 46, 47, 52, 63, 64, 65, 66] (by decide +kernel) (by decide +kernel)
set_option maxRecDepth 20000 in
theorem gX6_swapCats_X1_move : GoodIn wsX6_swapCats (wsV RX6 132 RX1 yX1_move wsX1_move) := goodIn_app (goodIn_of _ (by decide +kernel)) ggX6_swapCats_X1_move
theorem dX6_swapCats_0 : decode cX6_swapCats 0 = .ok (.iload_n 1, 1) := by decide +kernel
theorem dX6_swapCats_1 : decode cX6_swapCats 1 = .ok (.iload_n 2, 1) := by decide +kernel
theorem dX6_swapCats_2 : decode cX6_swapCats 2 = .ok (.invokestatic 92, 3) := by decide +kernel
theorem dX6_swapCats_5 : decode cX6_swapCats 5 = .ok (.ifCond .ne 5, 3) := by decide +kernel
theorem dX6_swapCats_8 : decode cX6_swapCats 8 = .ok (.iconst (-1), 1) := by decide +kernel
theorem dX6_swapCats_9 : decode cX6_swapCats 9 = .ok (.ireturn, 1) := by decide +kernel
theorem dX6_swapCats_10 : decode cX6_swapCats 10 = .ok (.iload_n 1, 1) := by decide +kernel
theorem dX6_swapCats_11 : decode cX6_swapCats 11 = .ok (.iload_n 2, 1) := by decide +kernel
theorem dX6_swapCats_12 : decode cX6_swapCats 12 = .ok (.if_icmp .ne 10, 3) := by decide +kernel
theorem dX6_swapCats_15 : decode cX6_swapCats 15 = .ok (.aload_n 3, 1) := by decide +kernel
theorem dX6_swapCats_16 : decode cX6_swapCats 16 = .ok (.iconst 2, 1) := by decide +kernel
theorem dX6_swapCats_17 : decode cX6_swapCats 17 = .ok (.iload_n 1, 1) := by decide +kernel
theorem dX6_swapCats_18 : decode cX6_swapCats 18 = .ok (.invokevirtual 86, 3) := by decide +kernel
theorem dX6_swapCats_21 : decode cX6_swapCats 21 = .ok (.ireturn, 1) := by decide +kernel
theorem dX6_swapCats_22 : decode cX6_swapCats 22 = .ok (.aload_n 0, 1) := by decide +kernel
theorem dX6_swapCats_23 : decode cX6_swapCats 23 = .ok (.iload_n 1, 1) := by decide +kernel
theorem dX6_swapCats_24 : decode cX6_swapCats 24 = .ok (.iload_n 2, 1) := by decide +kernel
theorem dX6_swapCats_25 : decode cX6_swapCats 25 = .ok (.invokevirtual 109, 3) := by decide +kernel
theorem dX6_swapCats_28 : decode cX6_swapCats 28 = .ok (.ifCond .eq 14, 3) := by decide +kernel
theorem dX6_swapCats_31 : decode cX6_swapCats 31 = .ok (.aload_n 3, 1) := by decide +kernel
theorem dX6_swapCats_32 : decode cX6_swapCats 32 = .ok (.iconst 5, 1) := by decide +kernel
theorem dX6_swapCats_33 : decode cX6_swapCats 33 = .ok (.iload_n 1, 1) := by decide +kernel
theorem dX6_swapCats_34 : decode cX6_swapCats 34 = .ok (.iload_n 2, 1) := by decide +kernel
theorem dX6_swapCats_35 : decode cX6_swapCats 35 = .ok (.invokestatic 112, 3) := by decide +kernel
theorem dX6_swapCats_38 : decode cX6_swapCats 38 = .ok (.invokevirtual 86, 3) := by decide +kernel
theorem dX6_swapCats_41 : decode cX6_swapCats 41 = .ok (.ireturn, 1) := by decide +kernel
theorem dX6_swapCats_42 : decode cX6_swapCats 42 = .ok (.aload_n 0, 1) := by decide +kernel
theorem dX6_swapCats_43 : decode cX6_swapCats 43 = .ok (.getfield 35, 3) := by decide +kernel
theorem dX6_swapCats_46 : decode cX6_swapCats 46 = .ok (.iload_n 1, 1) := by decide +kernel
theorem dX6_swapCats_47 : decode cX6_swapCats 47 = .ok (.invokevirtual 125, 3) := by decide +kernel
theorem dX6_swapCats_50 : decode cX6_swapCats 50 = .ok (.istore 4, 2) := by decide +kernel
theorem dX6_swapCats_52 : decode cX6_swapCats 52 = .ok (.aload_n 0, 1) := by decide +kernel
theorem dX6_swapCats_53 : decode cX6_swapCats 53 = .ok (.getfield 35, 3) := by decide +kernel
theorem dX6_swapCats_56 : decode cX6_swapCats 56 = .ok (.iload_n 2, 1) := by decide +kernel
theorem dX6_swapCats_57 : decode cX6_swapCats 57 = .ok (.invokevirtual 125, 3) := by decide +kernel
theorem dX6_swapCats_60 : decode cX6_swapCats 60 = .ok (.istore 5, 2) := by decide +kernel
theorem dX6_swapCats_62 : decode cX6_swapCats 62 = .ok (.iload 4, 2) := by decide +kernel
theorem dX6_swapCats_64 : decode cX6_swapCats 64 = .ok (.ifCond .ge 22, 3) := by decide +kernel
theorem dX6_swapCats_67 : decode cX6_swapCats 67 = .ok (.iload 5, 2) := by decide +kernel
theorem dX6_swapCats_69 : decode cX6_swapCats 69 = .ok (.ifCond .ge 17, 3) := by decide +kernel
theorem dX6_swapCats_72 : decode cX6_swapCats 72 = .ok (.aload_n 3, 1) := by decide +kernel
theorem dX6_swapCats_73 : decode cX6_swapCats 73 = .ok (.bipush 9, 2) := by decide +kernel
theorem dX6_swapCats_75 : decode cX6_swapCats 75 = .ok (.aload_n 0, 1) := by decide +kernel
theorem dX6_swapCats_76 : decode cX6_swapCats 76 = .ok (.getfield 35, 3) := by decide +kernel
theorem dX6_swapCats_79 : decode cX6_swapCats 79 = .ok (.getfield 129, 3) := by decide +kernel
theorem dX6_swapCats_82 : decode cX6_swapCats 82 = .ok (.invokevirtual 86, 3) := by decide +kernel
theorem dX6_swapCats_85 : decode cX6_swapCats 85 = .ok (.ireturn, 1) := by decide +kernel
theorem dX6_swapCats_86 : decode cX6_swapCats 86 = .ok (.aload_n 0, 1) := by decide +kernel
theorem dX6_swapCats_87 : decode cX6_swapCats 87 = .ok (.getfield 35, 3) := by decide +kernel
theorem dX6_swapCats_90 : decode cX6_swapCats 90 = .ok (.iload 4, 2) := by decide +kernel
theorem dX6_swapCats_92 : decode cX6_swapCats 92 = .ok (.iload_n 2, 1) := by decide +kernel
theorem dX6_swapCats_93 : decode cX6_swapCats 93 = .ok (.invokevirtual 132, 3) := by decide +kernel
theorem dX6_swapCats_96 : decode cX6_swapCats 96 = .ok (.aload_n 0, 1) := by decide +kernel
theorem dX6_swapCats_97 : decode cX6_swapCats 97 = .ok (.getfield 35, 3) := by decide +kernel
theorem dX6_swapCats_100 : decode cX6_swapCats 100 = .ok (.iload 5, 2) := by decide +kernel
theorem dX6_swapCats_102 : decode cX6_swapCats 102 = .ok (.iload_n 1, 1) := by decide +kernel
theorem dX6_swapCats_103 : decode cX6_swapCats 103 = .ok (.invokevirtual 132, 3) := by decide +kernel
theorem dX6_swapCats_106 : decode cX6_swapCats 106 = .ok (.iadd, 1) := by decide +kernel
theorem dX6_swapCats_107 : decode cX6_swapCats 107 = .ok (.ireturn, 1) := by decide +kernel
set_option maxRecDepth 20000 in
theorem ggX6_endDay_X6_growsBy : GoodIn wsX6_endDay wsX6_growsBy := goodIn_r _ [14] (by decide +kernel) (by decide +kernel)
set_option maxRecDepth 20000 in
theorem gX6_endDay_X6_growsBy : GoodIn wsX6_endDay (va_wsS RX6 135 yX6_growsBy wsX6_growsBy) := goodIn_app (goodIn_of _ (by decide +kernel)) ggX6_endDay_X6_growsBy
set_option maxRecDepth 20000 in
theorem ggX6_endDay_X7_passDay : GoodIn wsX6_endDay wsX7_passDay := goodIn_r _ [19, 20, 21, 22, 23, 44, 45, 46, 47, 48] (by decide +kernel) (by decide +kernel)
set_option maxRecDepth 20000 in
theorem gX6_endDay_X7_passDay : GoodIn wsX6_endDay (wsV RX6 139 RX7 yX7_passDay wsX7_passDay) := goodIn_app (goodIn_of _ (by decide +kernel)) ggX6_endDay_X7_passDay
set_option maxRecDepth 20000 in
theorem ggX6_endDay_X4_passDay : GoodIn wsX6_endDay wsX4_passDay := goodIn_r _ [28, 29, 30, 31, 32, 33, 49, 50] (by decide +kernel) (by decide +kernel)
set_option maxRecDepth 20000 in
theorem gX6_endDay_X4_passDay : GoodIn wsX6_endDay (wsV RX6 142 RX4 yX4_passDay wsX4_passDay) := goodIn_app (goodIn_of _ (by decide +kernel)) ggX6_endDay_X4_passDay
theorem dX6_endDay_0 : decode cX6_endDay 0 = .ok (.aload_n 0, 1) := by decide +kernel
theorem dX6_endDay_1 : decode cX6_endDay 1 = .ok (.getfield 9, 3) := by decide +kernel
theorem dX6_endDay_4 : decode cX6_endDay 4 = .ok (.iconst 0, 1) := by decide +kernel
theorem dX6_endDay_5 : decode cX6_endDay 5 = .ok (.aload_n 0, 1) := by decide +kernel
theorem dX6_endDay_6 : decode cX6_endDay 6 = .ok (.getfield 39, 3) := by decide +kernel
theorem dX6_endDay_9 : decode cX6_endDay 9 = .ok (.iconst 0, 1) := by decide +kernel
theorem dX6_endDay_10 : decode cX6_endDay 10 = .ok (.bipush 12, 2) := by decide +kernel
theorem dX6_endDay_12 : decode cX6_endDay 12 = .ok (.invokestatic 66, 3) := by decide +kernel
theorem dX6_endDay_15 : decode cX6_endDay 15 = .ok (.iconst 0, 1) := by decide +kernel
theorem dX6_endDay_16 : decode cX6_endDay 16 = .ok (.istore_n 1, 1) := by decide +kernel
theorem dX6_endDay_17 : decode cX6_endDay 17 = .ok (.iconst 0, 1) := by decide +kernel
theorem dX6_endDay_18 : decode cX6_endDay 18 = .ok (.istore_n 2, 1) := by decide +kernel
theorem dX6_endDay_19 : decode cX6_endDay 19 = .ok (.iload_n 2, 1) := by decide +kernel
theorem dX6_endDay_20 : decode cX6_endDay 20 = .ok (.bipush 12, 2) := by decide +kernel
theorem dX6_endDay_22 : decode cX6_endDay 22 = .ok (.if_icmp .ge 33, 3) := by decide +kernel
theorem dX6_endDay_25 : decode cX6_endDay 25 = .ok (.aload_n 0, 1) := by decide +kernel
theorem dX6_endDay_26 : decode cX6_endDay 26 = .ok (.getfield 39, 3) := by decide +kernel
theorem dX6_endDay_29 : decode cX6_endDay 29 = .ok (.iload_n 2, 1) := by decide +kernel
theorem dX6_endDay_30 : decode cX6_endDay 30 = .ok (.invokestatic 135, 3) := by decide +kernel
theorem dX6_endDay_33 : decode cX6_endDay 33 = .ok (.ifCond .eq 16, 3) := by decide +kernel
theorem dX6_endDay_36 : decode cX6_endDay 36 = .ok (.aload_n 0, 1) := by decide +kernel
theorem dX6_endDay_37 : decode cX6_endDay 37 = .ok (.getfield 9, 3) := by decide +kernel
theorem dX6_endDay_40 : decode cX6_endDay 40 = .ok (.iload_n 2, 1) := by decide +kernel
theorem dX6_endDay_41 : decode cX6_endDay 41 = .ok (.dup2, 1) := by decide +kernel
theorem dX6_endDay_42 : decode cX6_endDay 42 = .ok (.iaload, 1) := by decide +kernel
theorem dX6_endDay_43 : decode cX6_endDay 43 = .ok (.iconst 1, 1) := by decide +kernel
theorem dX6_endDay_44 : decode cX6_endDay 44 = .ok (.iadd, 1) := by decide +kernel
theorem dX6_endDay_45 : decode cX6_endDay 45 = .ok (.iastore, 1) := by decide +kernel
theorem dX6_endDay_46 : decode cX6_endDay 46 = .ok (.iinc 1 1, 3) := by decide +kernel
theorem dX6_endDay_49 : decode cX6_endDay 49 = .ok (.iinc 2 1, 3) := by decide +kernel
theorem dX6_endDay_52 : decode cX6_endDay 52 = .ok (.goto (-33), 3) := by decide +kernel
theorem dX6_endDay_55 : decode cX6_endDay 55 = .ok (.aload_n 0, 1) := by decide +kernel
theorem dX6_endDay_56 : decode cX6_endDay 56 = .ok (.dup, 1) := by decide +kernel
theorem dX6_endDay_57 : decode cX6_endDay 57 = .ok (.getfield 63, 3) := by decide +kernel
theorem dX6_endDay_60 : decode cX6_endDay 60 = .ok (.iload_n 1, 1) := by decide +kernel
theorem dX6_endDay_61 : decode cX6_endDay 61 = .ok (.iadd, 1) := by decide +kernel
theorem dX6_endDay_62 : decode cX6_endDay 62 = .ok (.putfield 63, 3) := by decide +kernel
theorem dX6_endDay_65 : decode cX6_endDay 65 = .ok (.aload_n 0, 1) := by decide +kernel
theorem dX6_endDay_66 : decode cX6_endDay 66 = .ok (.getfield 21, 3) := by decide +kernel
theorem dX6_endDay_69 : decode cX6_endDay 69 = .ok (.invokevirtual 139, 3) := by decide +kernel
theorem dX6_endDay_72 : decode cX6_endDay 72 = .ok (.aload_n 0, 1) := by decide +kernel
theorem dX6_endDay_73 : decode cX6_endDay 73 = .ok (.getfield 28, 3) := by decide +kernel
theorem dX6_endDay_76 : decode cX6_endDay 76 = .ok (.invokevirtual 142, 3) := by decide +kernel
theorem dX6_endDay_79 : decode cX6_endDay 79 = .ok (.aload_n 0, 1) := by decide +kernel
theorem dX6_endDay_80 : decode cX6_endDay 80 = .ok (.dup, 1) := by decide +kernel
theorem dX6_endDay_81 : decode cX6_endDay 81 = .ok (.getfield 53, 3) := by decide +kernel
theorem dX6_endDay_84 : decode cX6_endDay 84 = .ok (.iconst 1, 1) := by decide +kernel
theorem dX6_endDay_85 : decode cX6_endDay 85 = .ok (.iadd, 1) := by decide +kernel
theorem dX6_endDay_86 : decode cX6_endDay 86 = .ok (.putfield 53, 3) := by decide +kernel
theorem dX6_endDay_89 : decode cX6_endDay 89 = .ok (.iload_n 1, 1) := by decide +kernel
theorem dX6_endDay_90 : decode cX6_endDay 90 = .ok (.ireturn, 1) := by decide +kernel
theorem dX6_growsBy_0 : decode cX6_growsBy 0 = .ok (.aload_n 0, 1) := by decide +kernel
theorem dX6_growsBy_1 : decode cX6_growsBy 1 = .ok (.iload_n 1, 1) := by decide +kernel
theorem dX6_growsBy_2 : decode cX6_growsBy 2 = .ok (.iaload, 1) := by decide +kernel
theorem dX6_growsBy_3 : decode cX6_growsBy 3 = .ok (.iconst 1, 1) := by decide +kernel
theorem dX6_growsBy_4 : decode cX6_growsBy 4 = .ok (.if_icmp .lt 11, 3) := by decide +kernel
theorem dX6_growsBy_7 : decode cX6_growsBy 7 = .ok (.aload_n 0, 1) := by decide +kernel
theorem dX6_growsBy_8 : decode cX6_growsBy 8 = .ok (.iload_n 1, 1) := by decide +kernel
theorem dX6_growsBy_9 : decode cX6_growsBy 9 = .ok (.iaload, 1) := by decide +kernel
theorem dX6_growsBy_10 : decode cX6_growsBy 10 = .ok (.bipush 9, 2) := by decide +kernel
theorem dX6_growsBy_12 : decode cX6_growsBy 12 = .ok (.if_icmp .lt 5, 3) := by decide +kernel
theorem dX6_growsBy_15 : decode cX6_growsBy 15 = .ok (.iconst 0, 1) := by decide +kernel
theorem dX6_growsBy_16 : decode cX6_growsBy 16 = .ok (.ireturn, 1) := by decide +kernel
theorem dX6_growsBy_17 : decode cX6_growsBy 17 = .ok (.iload_n 1, 1) := by decide +kernel
theorem dX6_growsBy_18 : decode cX6_growsBy 18 = .ok (.iconst 4, 1) := by decide +kernel
theorem dX6_growsBy_19 : decode cX6_growsBy 19 = .ok (.iadd, 1) := by decide +kernel
theorem dX6_growsBy_20 : decode cX6_growsBy 20 = .ok (.istore_n 2, 1) := by decide +kernel
theorem dX6_growsBy_21 : decode cX6_growsBy 21 = .ok (.iload_n 2, 1) := by decide +kernel
theorem dX6_growsBy_22 : decode cX6_growsBy 22 = .ok (.bipush 12, 2) := by decide +kernel
theorem dX6_growsBy_24 : decode cX6_growsBy 24 = .ok (.if_icmp .ge 20, 3) := by decide +kernel
theorem dX6_growsBy_27 : decode cX6_growsBy 27 = .ok (.aload_n 0, 1) := by decide +kernel
theorem dX6_growsBy_28 : decode cX6_growsBy 28 = .ok (.iload_n 2, 1) := by decide +kernel
theorem dX6_growsBy_29 : decode cX6_growsBy 29 = .ok (.iaload, 1) := by decide +kernel
theorem dX6_growsBy_30 : decode cX6_growsBy 30 = .ok (.aload_n 0, 1) := by decide +kernel
theorem dX6_growsBy_31 : decode cX6_growsBy 31 = .ok (.iload_n 1, 1) := by decide +kernel
theorem dX6_growsBy_32 : decode cX6_growsBy 32 = .ok (.iaload, 1) := by decide +kernel
theorem dX6_growsBy_33 : decode cX6_growsBy 33 = .ok (.if_icmp .le 5, 3) := by decide +kernel
theorem dX6_growsBy_36 : decode cX6_growsBy 36 = .ok (.iconst 0, 1) := by decide +kernel
theorem dX6_growsBy_37 : decode cX6_growsBy 37 = .ok (.ireturn, 1) := by decide +kernel
theorem dX6_growsBy_38 : decode cX6_growsBy 38 = .ok (.iinc 2 4, 3) := by decide +kernel
theorem dX6_growsBy_41 : decode cX6_growsBy 41 = .ok (.goto (-20), 3) := by decide +kernel
theorem dX6_growsBy_44 : decode cX6_growsBy 44 = .ok (.iconst 1, 1) := by decide +kernel
theorem dX6_growsBy_45 : decode cX6_growsBy 45 = .ok (.ireturn, 1) := by decide +kernel
set_option maxRecDepth 20000 in
theorem ggX6_isFeud_X7_between : GoodIn wsX6_isFeud wsX7_between := goodIn_r _ [15, 16, 17, 18, 29, 30, 31, 32, 33] (by decide +kernel) (by decide +kernel)
set_option maxRecDepth 20000 in
theorem gX6_isFeud_X7_between : GoodIn wsX6_isFeud (wsV RX6 96 RX7 yX7_between wsX7_between) := goodIn_app (goodIn_of _ (by decide +kernel)) ggX6_isFeud_X7_between
theorem dX6_isFeud_0 : decode cX6_isFeud 0 = .ok (.iload_n 1, 1) := by decide +kernel
theorem dX6_isFeud_1 : decode cX6_isFeud 1 = .ok (.iload_n 2, 1) := by decide +kernel
theorem dX6_isFeud_2 : decode cX6_isFeud 2 = .ok (.if_icmp .eq 12, 3) := by decide +kernel
theorem dX6_isFeud_5 : decode cX6_isFeud 5 = .ok (.iload_n 1, 1) := by decide +kernel
theorem dX6_isFeud_6 : decode cX6_isFeud 6 = .ok (.iconst 4, 1) := by decide +kernel
theorem dX6_isFeud_7 : decode cX6_isFeud 7 = .ok (.irem, 1) := by decide +kernel
theorem dX6_isFeud_8 : decode cX6_isFeud 8 = .ok (.iload_n 2, 1) := by decide +kernel
theorem dX6_isFeud_9 : decode cX6_isFeud 9 = .ok (.iconst 4, 1) := by decide +kernel
theorem dX6_isFeud_10 : decode cX6_isFeud 10 = .ok (.irem, 1) := by decide +kernel
theorem dX6_isFeud_11 : decode cX6_isFeud 11 = .ok (.if_icmp .eq 5, 3) := by decide +kernel
theorem dX6_isFeud_14 : decode cX6_isFeud 14 = .ok (.iconst 0, 1) := by decide +kernel
theorem dX6_isFeud_15 : decode cX6_isFeud 15 = .ok (.ireturn, 1) := by decide +kernel
theorem dX6_isFeud_16 : decode cX6_isFeud 16 = .ok (.iload_n 1, 1) := by decide +kernel
theorem dX6_isFeud_17 : decode cX6_isFeud 17 = .ok (.iload_n 2, 1) := by decide +kernel
theorem dX6_isFeud_18 : decode cX6_isFeud 18 = .ok (.invokestatic 112, 3) := by decide +kernel
theorem dX6_isFeud_21 : decode cX6_isFeud 21 = .ok (.istore_n 3, 1) := by decide +kernel
theorem dX6_isFeud_22 : decode cX6_isFeud 22 = .ok (.iload_n 1, 1) := by decide +kernel
theorem dX6_isFeud_23 : decode cX6_isFeud 23 = .ok (.iload_n 2, 1) := by decide +kernel
theorem dX6_isFeud_24 : decode cX6_isFeud 24 = .ok (.invokestatic 143, 3) := by decide +kernel
theorem dX6_isFeud_27 : decode cX6_isFeud 27 = .ok (.istore 4, 2) := by decide +kernel
theorem dX6_isFeud_29 : decode cX6_isFeud 29 = .ok (.aload_n 0, 1) := by decide +kernel
theorem dX6_isFeud_30 : decode cX6_isFeud 30 = .ok (.getfield 9, 3) := by decide +kernel
theorem dX6_isFeud_33 : decode cX6_isFeud 33 = .ok (.iload_n 3, 1) := by decide +kernel
theorem dX6_isFeud_34 : decode cX6_isFeud 34 = .ok (.iaload, 1) := by decide +kernel
theorem dX6_isFeud_35 : decode cX6_isFeud 35 = .ok (.aload_n 0, 1) := by decide +kernel
theorem dX6_isFeud_36 : decode cX6_isFeud 36 = .ok (.getfield 15, 3) := by decide +kernel
theorem dX6_isFeud_39 : decode cX6_isFeud 39 = .ok (.iload 4, 2) := by decide +kernel
theorem dX6_isFeud_41 : decode cX6_isFeud 41 = .ok (.iaload, 1) := by decide +kernel
theorem dX6_isFeud_42 : decode cX6_isFeud 42 = .ok (.if_icmp .le 20, 3) := by decide +kernel
theorem dX6_isFeud_45 : decode cX6_isFeud 45 = .ok (.aload_n 0, 1) := by decide +kernel
theorem dX6_isFeud_46 : decode cX6_isFeud 46 = .ok (.getfield 21, 3) := by decide +kernel
theorem dX6_isFeud_49 : decode cX6_isFeud 49 = .ok (.iload 4, 2) := by decide +kernel
theorem dX6_isFeud_51 : decode cX6_isFeud 51 = .ok (.iload_n 3, 1) := by decide +kernel
theorem dX6_isFeud_52 : decode cX6_isFeud 52 = .ok (.invokevirtual 96, 3) := by decide +kernel
theorem dX6_isFeud_55 : decode cX6_isFeud 55 = .ok (.ifCond .ge 7, 3) := by decide +kernel
theorem dX6_isFeud_58 : decode cX6_isFeud 58 = .ok (.iconst 1, 1) := by decide +kernel
theorem dX6_isFeud_59 : decode cX6_isFeud 59 = .ok (.goto 4, 3) := by decide +kernel
theorem dX6_isFeud_62 : decode cX6_isFeud 62 = .ok (.iconst 0, 1) := by decide +kernel
theorem dX6_isFeud_63 : decode cX6_isFeud 63 = .ok (.ireturn, 1) := by decide +kernel
theorem dX6_plantSum_0 : decode cX6_plantSum 0 = .ok (.iconst 0, 1) := by decide +kernel
theorem dX6_plantSum_1 : decode cX6_plantSum 1 = .ok (.istore_n 1, 1) := by decide +kernel
theorem dX6_plantSum_2 : decode cX6_plantSum 2 = .ok (.iconst 0, 1) := by decide +kernel
theorem dX6_plantSum_3 : decode cX6_plantSum 3 = .ok (.istore_n 2, 1) := by decide +kernel
theorem dX6_plantSum_4 : decode cX6_plantSum 4 = .ok (.iload_n 2, 1) := by decide +kernel
theorem dX6_plantSum_5 : decode cX6_plantSum 5 = .ok (.bipush 12, 2) := by decide +kernel
theorem dX6_plantSum_7 : decode cX6_plantSum 7 = .ok (.if_icmp .ge 18, 3) := by decide +kernel
theorem dX6_plantSum_10 : decode cX6_plantSum 10 = .ok (.iload_n 1, 1) := by decide +kernel
theorem dX6_plantSum_11 : decode cX6_plantSum 11 = .ok (.aload_n 0, 1) := by decide +kernel
theorem dX6_plantSum_12 : decode cX6_plantSum 12 = .ok (.getfield 9, 3) := by decide +kernel
theorem dX6_plantSum_15 : decode cX6_plantSum 15 = .ok (.iload_n 2, 1) := by decide +kernel
theorem dX6_plantSum_16 : decode cX6_plantSum 16 = .ok (.iaload, 1) := by decide +kernel
theorem dX6_plantSum_17 : decode cX6_plantSum 17 = .ok (.iadd, 1) := by decide +kernel
theorem dX6_plantSum_18 : decode cX6_plantSum 18 = .ok (.istore_n 1, 1) := by decide +kernel
theorem dX6_plantSum_19 : decode cX6_plantSum 19 = .ok (.iinc 2 1, 3) := by decide +kernel
theorem dX6_plantSum_22 : decode cX6_plantSum 22 = .ok (.goto (-18), 3) := by decide +kernel
theorem dX6_plantSum_25 : decode cX6_plantSum 25 = .ok (.iload_n 1, 1) := by decide +kernel
theorem dX6_plantSum_26 : decode cX6_plantSum 26 = .ok (.ireturn, 1) := by decide +kernel
set_option maxRecDepth 20000 in
theorem ggX6_stepFrom_X6_besideOf : GoodIn wsX6_stepFrom wsX6_besideOf := goodIn_r _ [4] (by decide +kernel) (by decide +kernel)
set_option maxRecDepth 20000 in
theorem gX6_stepFrom_X6_besideOf : GoodIn wsX6_stepFrom (va_wsS RX6 146 yX6_besideOf wsX6_besideOf) := goodIn_app (goodIn_of _ (by decide +kernel)) ggX6_stepFrom_X6_besideOf
set_option maxRecDepth 20000 in
theorem ggX6_stepFrom_X6_isFeud : GoodIn wsX6_stepFrom wsX6_isFeud := goodIn_r _ [8, 9, 10, 11, 12, 13, 14, 15, 16, 17, 18, 19, 20, 21, 22, 23, 24, 25, 26, 27, 28, 29, 30, 31, 32, 33, 34, 35, 36, 37, 38, 39, 40, 41] (by decide +kernel) (by decide +kernel)
set_option maxRecDepth 20000 in
theorem gX6_stepFrom_X6_isFeud : GoodIn wsX6_stepFrom (wsV RX6 109 RX6 yX6_isFeud wsX6_isFeud) := goodIn_app (goodIn_of _ (by decide +kernel)) ggX6_stepFrom_X6_isFeud
theorem dX6_stepFrom_0 : decode cX6_stepFrom 0 = .ok (.iload_n 1, 1) := by decide +kernel
theorem dX6_stepFrom_1 : decode cX6_stepFrom 1 = .ok (.iload_n 2, 1) := by decide +kernel
theorem dX6_stepFrom_2 : decode cX6_stepFrom 2 = .ok (.invokestatic 146, 3) := by decide +kernel
theorem dX6_stepFrom_5 : decode cX6_stepFrom 5 = .ok (.istore_n 3, 1) := by decide +kernel
theorem dX6_stepFrom_6 : decode cX6_stepFrom 6 = .ok (.iload_n 3, 1) := by decide +kernel
theorem dX6_stepFrom_7 : decode cX6_stepFrom 7 = .ok (.ifCond .lt 12, 3) := by decide +kernel
theorem dX6_stepFrom_10 : decode cX6_stepFrom 10 = .ok (.aload_n 0, 1) := by decide +kernel
theorem dX6_stepFrom_11 : decode cX6_stepFrom 11 = .ok (.iload_n 1, 1) := by decide +kernel
theorem dX6_stepFrom_12 : decode cX6_stepFrom 12 = .ok (.iload_n 3, 1) := by decide +kernel
theorem dX6_stepFrom_13 : decode cX6_stepFrom 13 = .ok (.invokevirtual 109, 3) := by decide +kernel
theorem dX6_stepFrom_16 : decode cX6_stepFrom 16 = .ok (.ifCond .eq 7, 3) := by decide +kernel
theorem dX6_stepFrom_19 : decode cX6_stepFrom 19 = .ok (.iconst (-1), 1) := by decide +kernel
theorem dX6_stepFrom_20 : decode cX6_stepFrom 20 = .ok (.goto 4, 3) := by decide +kernel
theorem dX6_stepFrom_23 : decode cX6_stepFrom 23 = .ok (.iload_n 3, 1) := by decide +kernel
theorem dX6_stepFrom_24 : decode cX6_stepFrom 24 = .ok (.ireturn, 1) := by decide +kernel
theorem dX6_besideOf_0 : decode cX6_besideOf 0 = .ok (.iload_n 1, 1) := by decide +kernel
theorem dX6_besideOf_1 : decode cX6_besideOf 1 = .ok (.tableswitch 69 0 2 #[27, 40, 54], 27) := by decide +kernel
theorem dX6_besideOf_28 : decode cX6_besideOf 28 = .ok (.iload_n 0, 1) := by decide +kernel
theorem dX6_besideOf_29 : decode cX6_besideOf 29 = .ok (.iconst 4, 1) := by decide +kernel
theorem dX6_besideOf_30 : decode cX6_besideOf 30 = .ok (.if_icmp .lt 9, 3) := by decide +kernel
theorem dX6_besideOf_33 : decode cX6_besideOf 33 = .ok (.iload_n 0, 1) := by decide +kernel
theorem dX6_besideOf_34 : decode cX6_besideOf 34 = .ok (.iconst 4, 1) := by decide +kernel
theorem dX6_besideOf_35 : decode cX6_besideOf 35 = .ok (.isub, 1) := by decide +kernel
theorem dX6_besideOf_36 : decode cX6_besideOf 36 = .ok (.goto 4, 3) := by decide +kernel
theorem dX6_besideOf_39 : decode cX6_besideOf 39 = .ok (.iconst (-1), 1) := by decide +kernel
theorem dX6_besideOf_40 : decode cX6_besideOf 40 = .ok (.ireturn, 1) := by decide +kernel
theorem dX6_besideOf_41 : decode cX6_besideOf 41 = .ok (.iload_n 0, 1) := by decide +kernel
theorem dX6_besideOf_42 : decode cX6_besideOf 42 = .ok (.iconst 4, 1) := by decide +kernel
theorem dX6_besideOf_43 : decode cX6_besideOf 43 = .ok (.irem, 1) := by decide +kernel
theorem dX6_besideOf_44 : decode cX6_besideOf 44 = .ok (.ifCond .le 9, 3) := by decide +kernel
theorem dX6_besideOf_47 : decode cX6_besideOf 47 = .ok (.iload_n 0, 1) := by decide +kernel
theorem dX6_besideOf_48 : decode cX6_besideOf 48 = .ok (.iconst 1, 1) := by decide +kernel
theorem dX6_besideOf_49 : decode cX6_besideOf 49 = .ok (.isub, 1) := by decide +kernel
theorem dX6_besideOf_50 : decode cX6_besideOf 50 = .ok (.goto 4, 3) := by decide +kernel
theorem dX6_besideOf_53 : decode cX6_besideOf 53 = .ok (.iconst (-1), 1) := by decide +kernel
theorem dX6_besideOf_54 : decode cX6_besideOf 54 = .ok (.ireturn, 1) := by decide +kernel
theorem dX6_besideOf_55 : decode cX6_besideOf 55 = .ok (.iload_n 0, 1) := by decide +kernel
theorem dX6_besideOf_56 : decode cX6_besideOf 56 = .ok (.iconst 4, 1) := by decide +kernel
theorem dX6_besideOf_57 : decode cX6_besideOf 57 = .ok (.irem, 1) := by decide +kernel
theorem dX6_besideOf_58 : decode cX6_besideOf 58 = .ok (.iconst 3, 1) := by decide +kernel
theorem dX6_besideOf_59 : decode cX6_besideOf 59 = .ok (.if_icmp .ge 9, 3) := by decide +kernel
theorem dX6_besideOf_62 : decode cX6_besideOf 62 = .ok (.iload_n 0, 1) := by decide +kernel
theorem dX6_besideOf_63 : decode cX6_besideOf 63 = .ok (.iconst 1, 1) := by decide +kernel
theorem dX6_besideOf_64 : decode cX6_besideOf 64 = .ok (.iadd, 1) := by decide +kernel
theorem dX6_besideOf_65 : decode cX6_besideOf 65 = .ok (.goto 4, 3) := by decide +kernel
theorem dX6_besideOf_68 : decode cX6_besideOf 68 = .ok (.iconst (-1), 1) := by decide +kernel
theorem dX6_besideOf_69 : decode cX6_besideOf 69 = .ok (.ireturn, 1) := by decide +kernel
theorem dX6_besideOf_70 : decode cX6_besideOf 70 = .ok (.iload_n 0, 1) := by decide +kernel
theorem dX6_besideOf_71 : decode cX6_besideOf 71 = .ok (.bipush 8, 2) := by decide +kernel
theorem dX6_besideOf_73 : decode cX6_besideOf 73 = .ok (.if_icmp .ge 9, 3) := by decide +kernel
theorem dX6_besideOf_76 : decode cX6_besideOf 76 = .ok (.iload_n 0, 1) := by decide +kernel
theorem dX6_besideOf_77 : decode cX6_besideOf 77 = .ok (.iconst 4, 1) := by decide +kernel
theorem dX6_besideOf_78 : decode cX6_besideOf 78 = .ok (.iadd, 1) := by decide +kernel
theorem dX6_besideOf_79 : decode cX6_besideOf 79 = .ok (.goto 4, 3) := by decide +kernel
theorem dX6_besideOf_82 : decode cX6_besideOf 82 = .ok (.iconst (-1), 1) := by decide +kernel
theorem dX6_besideOf_83 : decode cX6_besideOf 83 = .ok (.ireturn, 1) := by decide +kernel
theorem dX7_init_0 : decode cX7_init 0 = .ok (.aload_n 0, 1) := by decide +kernel
theorem dX7_init_1 : decode cX7_init 1 = .ok (.invokespecial 3, 3) := by decide +kernel
theorem dX7_init_4 : decode cX7_init 4 = .ok (.aload_n 0, 1) := by decide +kernel
theorem dX7_init_5 : decode cX7_init 5 = .ok (.bipush 6, 2) := by decide +kernel
theorem dX7_init_7 : decode cX7_init 7 = .ok (.newarray .int, 2) := by decide +kernel
theorem dX7_init_9 : decode cX7_init 9 = .ok (.putfield 9, 3) := by decide +kernel
theorem dX7_init_12 : decode cX7_init 12 = .ok (.aload_n 0, 1) := by decide +kernel
theorem dX7_init_13 : decode cX7_init 13 = .ok (.bipush 6, 2) := by decide +kernel
theorem dX7_init_15 : decode cX7_init 15 = .ok (.newarray .int, 2) := by decide +kernel
theorem dX7_init_17 : decode cX7_init 17 = .ok (.putfield 15, 3) := by decide +kernel
theorem dX7_init_20 : decode cX7_init 20 = .ok (.aload_n 0, 1) := by decide +kernel
theorem dX7_init_21 : decode cX7_init 21 = .ok (.bipush 6, 2) := by decide +kernel
theorem dX7_init_23 : decode cX7_init 23 = .ok (.newarray .int, 2) := by decide +kernel
theorem dX7_init_25 : decode cX7_init 25 = .ok (.putfield 18, 3) := by decide +kernel
theorem dX7_init_28 : decode cX7_init 28 = .ok (.return_, 1) := by decide +kernel
theorem dX7_becomeNew_0 : decode cX7_becomeNew 0 = .ok (.aload_n 0, 1) := by decide +kernel
theorem dX7_becomeNew_1 : decode cX7_becomeNew 1 = .ok (.iconst 0, 1) := by decide +kernel
theorem dX7_becomeNew_2 : decode cX7_becomeNew 2 = .ok (.putfield 21, 3) := by decide +kernel
theorem dX7_becomeNew_5 : decode cX7_becomeNew 5 = .ok (.aload_n 0, 1) := by decide +kernel
theorem dX7_becomeNew_6 : decode cX7_becomeNew 6 = .ok (.iconst 0, 1) := by decide +kernel
theorem dX7_becomeNew_7 : decode cX7_becomeNew 7 = .ok (.putfield 25, 3) := by decide +kernel
theorem dX7_becomeNew_10 : decode cX7_becomeNew 10 = .ok (.return_, 1) := by decide +kernel
theorem dX7_take_0 : decode cX7_take 0 = .ok (.aload_n 1, 1) := by decide +kernel
theorem dX7_take_1 : decode cX7_take 1 = .ok (.getfield 9, 3) := by decide +kernel
theorem dX7_take_4 : decode cX7_take 4 = .ok (.iconst 0, 1) := by decide +kernel
theorem dX7_take_5 : decode cX7_take 5 = .ok (.aload_n 0, 1) := by decide +kernel
theorem dX7_take_6 : decode cX7_take 6 = .ok (.getfield 9, 3) := by decide +kernel
theorem dX7_take_9 : decode cX7_take 9 = .ok (.iconst 0, 1) := by decide +kernel
theorem dX7_take_10 : decode cX7_take 10 = .ok (.bipush 6, 2) := by decide +kernel
theorem dX7_take_12 : decode cX7_take 12 = .ok (.invokestatic 28, 3) := by decide +kernel
theorem dX7_take_15 : decode cX7_take 15 = .ok (.aload_n 1, 1) := by decide +kernel
theorem dX7_take_16 : decode cX7_take 16 = .ok (.getfield 15, 3) := by decide +kernel
theorem dX7_take_19 : decode cX7_take 19 = .ok (.iconst 0, 1) := by decide +kernel
theorem dX7_take_20 : decode cX7_take 20 = .ok (.aload_n 0, 1) := by decide +kernel
theorem dX7_take_21 : decode cX7_take 21 = .ok (.getfield 15, 3) := by decide +kernel
theorem dX7_take_24 : decode cX7_take 24 = .ok (.iconst 0, 1) := by decide +kernel
theorem dX7_take_25 : decode cX7_take 25 = .ok (.bipush 6, 2) := by decide +kernel
theorem dX7_take_27 : decode cX7_take 27 = .ok (.invokestatic 28, 3) := by decide +kernel
theorem dX7_take_30 : decode cX7_take 30 = .ok (.aload_n 1, 1) := by decide +kernel
theorem dX7_take_31 : decode cX7_take 31 = .ok (.getfield 18, 3) := by decide +kernel
theorem dX7_take_34 : decode cX7_take 34 = .ok (.iconst 0, 1) := by decide +kernel
theorem dX7_take_35 : decode cX7_take 35 = .ok (.aload_n 0, 1) := by decide +kernel
theorem dX7_take_36 : decode cX7_take 36 = .ok (.getfield 18, 3) := by decide +kernel
theorem dX7_take_39 : decode cX7_take 39 = .ok (.iconst 0, 1) := by decide +kernel
theorem dX7_take_40 : decode cX7_take 40 = .ok (.bipush 6, 2) := by decide +kernel
theorem dX7_take_42 : decode cX7_take 42 = .ok (.invokestatic 28, 3) := by decide +kernel
theorem dX7_take_45 : decode cX7_take 45 = .ok (.aload_n 0, 1) := by decide +kernel
theorem dX7_take_46 : decode cX7_take 46 = .ok (.aload_n 1, 1) := by decide +kernel
theorem dX7_take_47 : decode cX7_take 47 = .ok (.getfield 21, 3) := by decide +kernel
theorem dX7_take_50 : decode cX7_take 50 = .ok (.putfield 21, 3) := by decide +kernel
theorem dX7_take_53 : decode cX7_take 53 = .ok (.aload_n 0, 1) := by decide +kernel
theorem dX7_take_54 : decode cX7_take 54 = .ok (.aload_n 1, 1) := by decide +kernel
theorem dX7_take_55 : decode cX7_take 55 = .ok (.getfield 25, 3) := by decide +kernel
theorem dX7_take_58 : decode cX7_take 58 = .ok (.putfield 25, 3) := by decide +kernel
theorem dX7_take_61 : decode cX7_take 61 = .ok (.return_, 1) := by decide +kernel
theorem dX7_between_0 : decode cX7_between 0 = .ok (.iload_n 1, 1) := by decide +kernel
theorem dX7_between_1 : decode cX7_between 1 = .ok (.iload_n 2, 1) := by decide +kernel
theorem dX7_between_2 : decode cX7_between 2 = .ok (.if_icmp .ge 7, 3) := by decide +kernel
theorem dX7_between_5 : decode cX7_between 5 = .ok (.iload_n 1, 1) := by decide +kernel
theorem dX7_between_6 : decode cX7_between 6 = .ok (.goto 4, 3) := by decide +kernel
theorem dX7_between_9 : decode cX7_between 9 = .ok (.iload_n 2, 1) := by decide +kernel
theorem dX7_between_10 : decode cX7_between 10 = .ok (.istore_n 3, 1) := by decide +kernel
theorem dX7_between_11 : decode cX7_between 11 = .ok (.iload_n 1, 1) := by decide +kernel
theorem dX7_between_12 : decode cX7_between 12 = .ok (.iload_n 2, 1) := by decide +kernel
theorem dX7_between_13 : decode cX7_between 13 = .ok (.if_icmp .ge 7, 3) := by decide +kernel
theorem dX7_between_16 : decode cX7_between 16 = .ok (.iload_n 2, 1) := by decide +kernel
theorem dX7_between_17 : decode cX7_between 17 = .ok (.goto 4, 3) := by decide +kernel
theorem dX7_between_20 : decode cX7_between 20 = .ok (.iload_n 1, 1) := by decide +kernel
theorem dX7_between_21 : decode cX7_between 21 = .ok (.istore 4, 2) := by decide +kernel
theorem dX7_between_23 : decode cX7_between 23 = .ok (.iconst 0, 1) := by decide +kernel
theorem dX7_between_24 : decode cX7_between 24 = .ok (.istore 5, 2) := by decide +kernel
theorem dX7_between_26 : decode cX7_between 26 = .ok (.iload 5, 2) := by decide +kernel
theorem dX7_between_28 : decode cX7_between 28 = .ok (.aload_n 0, 1) := by decide +kernel
theorem dX7_between_29 : decode cX7_between 29 = .ok (.getfield 21, 3) := by decide +kernel
theorem dX7_between_32 : decode cX7_between 32 = .ok (.if_icmp .ge 35, 3) := by decide +kernel
theorem dX7_between_35 : decode cX7_between 35 = .ok (.aload_n 0, 1) := by decide +kernel
theorem dX7_between_36 : decode cX7_between 36 = .ok (.getfield 9, 3) := by decide +kernel
theorem dX7_between_39 : decode cX7_between 39 = .ok (.iload 5, 2) := by decide +kernel
theorem dX7_between_41 : decode cX7_between 41 = .ok (.iaload, 1) := by decide +kernel
theorem dX7_between_42 : decode cX7_between 42 = .ok (.iload_n 3, 1) := by decide +kernel
theorem dX7_between_43 : decode cX7_between 43 = .ok (.if_icmp .ne 18, 3) := by decide +kernel
theorem dX7_between_46 : decode cX7_between 46 = .ok (.aload_n 0, 1) := by decide +kernel
theorem dX7_between_47 : decode cX7_between 47 = .ok (.getfield 15, 3) := by decide +kernel
theorem dX7_between_50 : decode cX7_between 50 = .ok (.iload 5, 2) := by decide +kernel
theorem dX7_between_52 : decode cX7_between 52 = .ok (.iaload, 1) := by decide +kernel
theorem dX7_between_53 : decode cX7_between 53 = .ok (.iload 4, 2) := by decide +kernel
theorem dX7_between_55 : decode cX7_between 55 = .ok (.if_icmp .ne 6, 3) := by decide +kernel
theorem dX7_between_58 : decode cX7_between 58 = .ok (.iload 5, 2) := by decide +kernel
theorem dX7_between_60 : decode cX7_between 60 = .ok (.ireturn, 1) := by decide +kernel
theorem dX7_between_61 : decode cX7_between 61 = .ok (.iinc 5 1, 3) := by decide +kernel
theorem dX7_between_64 : decode cX7_between 64 = .ok (.goto (-38), 3) := by decide +kernel
theorem dX7_between_67 : decode cX7_between 67 = .ok (.iconst (-1), 1) := by decide +kernel
theorem dX7_between_68 : decode cX7_between 68 = .ok (.ireturn, 1) := by decide +kernel
theorem dX7_countAt_0 : decode cX7_countAt 0 = .ok (.iconst 0, 1) := by decide +kernel
theorem dX7_countAt_1 : decode cX7_countAt 1 = .ok (.istore_n 2, 1) := by decide +kernel
theorem dX7_countAt_2 : decode cX7_countAt 2 = .ok (.iconst 0, 1) := by decide +kernel
theorem dX7_countAt_3 : decode cX7_countAt 3 = .ok (.istore_n 3, 1) := by decide +kernel
theorem dX7_countAt_4 : decode cX7_countAt 4 = .ok (.iload_n 3, 1) := by decide +kernel
theorem dX7_countAt_5 : decode cX7_countAt 5 = .ok (.aload_n 0, 1) := by decide +kernel
theorem dX7_countAt_6 : decode cX7_countAt 6 = .ok (.getfield 21, 3) := by decide +kernel
theorem dX7_countAt_9 : decode cX7_countAt 9 = .ok (.if_icmp .ge 32, 3) := by decide +kernel
theorem dX7_countAt_12 : decode cX7_countAt 12 = .ok (.aload_n 0, 1) := by decide +kernel
theorem dX7_countAt_13 : decode cX7_countAt 13 = .ok (.getfield 9, 3) := by decide +kernel
theorem dX7_countAt_16 : decode cX7_countAt 16 = .ok (.iload_n 3, 1) := by decide +kernel
theorem dX7_countAt_17 : decode cX7_countAt 17 = .ok (.iaload, 1) := by decide +kernel
theorem dX7_countAt_18 : decode cX7_countAt 18 = .ok (.iload_n 1, 1) := by decide +kernel
theorem dX7_countAt_19 : decode cX7_countAt 19 = .ok (.if_icmp .eq 13, 3) := by decide +kernel
theorem dX7_countAt_22 : decode cX7_countAt 22 = .ok (.aload_n 0, 1) := by decide +kernel
theorem dX7_countAt_23 : decode cX7_countAt 23 = .ok (.getfield 15, 3) := by decide +kernel
theorem dX7_countAt_26 : decode cX7_countAt 26 = .ok (.iload_n 3, 1) := by decide +kernel
theorem dX7_countAt_27 : decode cX7_countAt 27 = .ok (.iaload, 1) := by decide +kernel
theorem dX7_countAt_28 : decode cX7_countAt 28 = .ok (.iload_n 1, 1) := by decide +kernel
theorem dX7_countAt_29 : decode cX7_countAt 29 = .ok (.if_icmp .ne 6, 3) := by decide +kernel
theorem dX7_countAt_32 : decode cX7_countAt 32 = .ok (.iinc 2 1, 3) := by decide +kernel
theorem dX7_countAt_35 : decode cX7_countAt 35 = .ok (.iinc 3 1, 3) := by decide +kernel
theorem dX7_countAt_38 : decode cX7_countAt 38 = .ok (.goto (-34), 3) := by decide +kernel
theorem dX7_countAt_41 : decode cX7_countAt 41 = .ok (.iload_n 2, 1) := by decide +kernel
theorem dX7_countAt_42 : decode cX7_countAt 42 = .ok (.ireturn, 1) := by decide +kernel
theorem dX7_add_0 : decode cX7_add 0 = .ok (.aload_n 0, 1) := by decide +kernel
theorem dX7_add_1 : decode cX7_add 1 = .ok (.getfield 21, 3) := by decide +kernel
theorem dX7_add_4 : decode cX7_add 4 = .ok (.istore 4, 2) := by decide +kernel
theorem dX7_add_6 : decode cX7_add 6 = .ok (.aload_n 0, 1) := by decide +kernel
theorem dX7_add_7 : decode cX7_add 7 = .ok (.getfield 9, 3) := by decide +kernel
theorem dX7_add_10 : decode cX7_add 10 = .ok (.iload 4, 2) := by decide +kernel
theorem dX7_add_12 : decode cX7_add 12 = .ok (.iload_n 1, 1) := by decide +kernel
theorem dX7_add_13 : decode cX7_add 13 = .ok (.iload_n 2, 1) := by decide +kernel
theorem dX7_add_14 : decode cX7_add 14 = .ok (.invokestatic 34, 3) := by decide +kernel
theorem dX7_add_17 : decode cX7_add 17 = .ok (.iastore, 1) := by decide +kernel
theorem dX7_add_18 : decode cX7_add 18 = .ok (.aload_n 0, 1) := by decide +kernel
theorem dX7_add_19 : decode cX7_add 19 = .ok (.getfield 15, 3) := by decide +kernel
theorem dX7_add_22 : decode cX7_add 22 = .ok (.iload 4, 2) := by decide +kernel
theorem dX7_add_24 : decode cX7_add 24 = .ok (.iload_n 1, 1) := by decide +kernel
theorem dX7_add_25 : decode cX7_add 25 = .ok (.iload_n 2, 1) := by decide +kernel
theorem dX7_add_26 : decode cX7_add 26 = .ok (.invokestatic 40, 3) := by decide +kernel
theorem dX7_add_29 : decode cX7_add 29 = .ok (.iastore, 1) := by decide +kernel
theorem dX7_add_30 : decode cX7_add 30 = .ok (.aload_n 0, 1) := by decide +kernel
theorem dX7_add_31 : decode cX7_add 31 = .ok (.getfield 18, 3) := by decide +kernel
theorem dX7_add_34 : decode cX7_add 34 = .ok (.iload 4, 2) := by decide +kernel
theorem dX7_add_36 : decode cX7_add 36 = .ok (.iload_n 3, 1) := by decide +kernel
theorem dX7_add_37 : decode cX7_add 37 = .ok (.iastore, 1) := by decide +kernel
theorem dX7_add_38 : decode cX7_add 38 = .ok (.aload_n 0, 1) := by decide +kernel
theorem dX7_add_39 : decode cX7_add 39 = .ok (.dup, 1) := by decide +kernel
theorem dX7_add_40 : decode cX7_add 40 = .ok (.getfield 21, 3) := by decide +kernel
theorem dX7_add_43 : decode cX7_add 43 = .ok (.iconst 1, 1) := by decide +kernel
theorem dX7_add_44 : decode cX7_add 44 = .ok (.iadd, 1) := by decide +kernel
theorem dX7_add_45 : decode cX7_add 45 = .ok (.putfield 21, 3) := by decide +kernel
theorem dX7_add_48 : decode cX7_add 48 = .ok (.aload_n 0, 1) := by decide +kernel
theorem dX7_add_49 : decode cX7_add 49 = .ok (.dup, 1) := by decide +kernel
theorem dX7_add_50 : decode cX7_add 50 = .ok (.getfield 25, 3) := by decide +kernel
theorem dX7_add_53 : decode cX7_add 53 = .ok (.iconst 1, 1) := by decide +kernel
theorem dX7_add_54 : decode cX7_add 54 = .ok (.iadd, 1) := by decide +kernel
theorem dX7_add_55 : decode cX7_add 55 = .ok (.putfield 25, 3) := by decide +kernel
theorem dX7_add_58 : decode cX7_add 58 = .ok (.iload 4, 2) := by decide +kernel
theorem dX7_add_60 : decode cX7_add 60 = .ok (.ireturn, 1) := by decide +kernel
theorem dX7_passDay_0 : decode cX7_passDay 0 = .ok (.iconst 0, 1) := by decide +kernel
theorem dX7_passDay_1 : decode cX7_passDay 1 = .ok (.istore_n 1, 1) := by decide +kernel
theorem dX7_passDay_2 : decode cX7_passDay 2 = .ok (.iconst 0, 1) := by decide +kernel
theorem dX7_passDay_3 : decode cX7_passDay 3 = .ok (.istore_n 2, 1) := by decide +kernel
theorem dX7_passDay_4 : decode cX7_passDay 4 = .ok (.iload_n 2, 1) := by decide +kernel
theorem dX7_passDay_5 : decode cX7_passDay 5 = .ok (.aload_n 0, 1) := by decide +kernel
theorem dX7_passDay_6 : decode cX7_passDay 6 = .ok (.getfield 21, 3) := by decide +kernel
theorem dX7_passDay_9 : decode cX7_passDay 9 = .ok (.if_icmp .ge 60, 3) := by decide +kernel
theorem dX7_passDay_12 : decode cX7_passDay 12 = .ok (.aload_n 0, 1) := by decide +kernel
theorem dX7_passDay_13 : decode cX7_passDay 13 = .ok (.getfield 18, 3) := by decide +kernel
theorem dX7_passDay_16 : decode cX7_passDay 16 = .ok (.iload_n 2, 1) := by decide +kernel
theorem dX7_passDay_17 : decode cX7_passDay 17 = .ok (.iaload, 1) := by decide +kernel
theorem dX7_passDay_18 : decode cX7_passDay 18 = .ok (.iconst 1, 1) := by decide +kernel
theorem dX7_passDay_19 : decode cX7_passDay 19 = .ok (.if_icmp .le 44, 3) := by decide +kernel
theorem dX7_passDay_22 : decode cX7_passDay 22 = .ok (.aload_n 0, 1) := by decide +kernel
theorem dX7_passDay_23 : decode cX7_passDay 23 = .ok (.getfield 9, 3) := by decide +kernel
theorem dX7_passDay_26 : decode cX7_passDay 26 = .ok (.iload_n 1, 1) := by decide +kernel
theorem dX7_passDay_27 : decode cX7_passDay 27 = .ok (.aload_n 0, 1) := by decide +kernel
theorem dX7_passDay_28 : decode cX7_passDay 28 = .ok (.getfield 9, 3) := by decide +kernel
theorem dX7_passDay_31 : decode cX7_passDay 31 = .ok (.iload_n 2, 1) := by decide +kernel
theorem dX7_passDay_32 : decode cX7_passDay 32 = .ok (.iaload, 1) := by decide +kernel
theorem dX7_passDay_33 : decode cX7_passDay 33 = .ok (.iastore, 1) := by decide +kernel
theorem dX7_passDay_34 : decode cX7_passDay 34 = .ok (.aload_n 0, 1) := by decide +kernel
theorem dX7_passDay_35 : decode cX7_passDay 35 = .ok (.getfield 15, 3) := by decide +kernel
theorem dX7_passDay_38 : decode cX7_passDay 38 = .ok (.iload_n 1, 1) := by decide +kernel
theorem dX7_passDay_39 : decode cX7_passDay 39 = .ok (.aload_n 0, 1) := by decide +kernel
theorem dX7_passDay_40 : decode cX7_passDay 40 = .ok (.getfield 15, 3) := by decide +kernel
theorem dX7_passDay_43 : decode cX7_passDay 43 = .ok (.iload_n 2, 1) := by decide +kernel
theorem dX7_passDay_44 : decode cX7_passDay 44 = .ok (.iaload, 1) := by decide +kernel
theorem dX7_passDay_45 : decode cX7_passDay 45 = .ok (.iastore, 1) := by decide +kernel
theorem dX7_passDay_46 : decode cX7_passDay 46 = .ok (.aload_n 0, 1) := by decide +kernel
theorem dX7_passDay_47 : decode cX7_passDay 47 = .ok (.getfield 18, 3) := by decide +kernel
theorem dX7_passDay_50 : decode cX7_passDay 50 = .ok (.iload_n 1, 1) := by decide +kernel
theorem dX7_passDay_51 : decode cX7_passDay 51 = .ok (.aload_n 0, 1) := by decide +kernel
theorem dX7_passDay_52 : decode cX7_passDay 52 = .ok (.getfield 18, 3) := by decide +kernel
theorem dX7_passDay_55 : decode cX7_passDay 55 = .ok (.iload_n 2, 1) := by decide +kernel
theorem dX7_passDay_56 : decode cX7_passDay 56 = .ok (.iaload, 1) := by decide +kernel
theorem dX7_passDay_57 : decode cX7_passDay 57 = .ok (.iconst 1, 1) := by decide +kernel
theorem dX7_passDay_58 : decode cX7_passDay 58 = .ok (.isub, 1) := by decide +kernel
theorem dX7_passDay_59 : decode cX7_passDay 59 = .ok (.iastore, 1) := by decide +kernel
theorem dX7_passDay_60 : decode cX7_passDay 60 = .ok (.iinc 1 1, 3) := by decide +kernel
theorem dX7_passDay_63 : decode cX7_passDay 63 = .ok (.iinc 2 1, 3) := by decide +kernel
theorem dX7_passDay_66 : decode cX7_passDay 66 = .ok (.goto (-62), 3) := by decide +kernel
theorem dX7_passDay_69 : decode cX7_passDay 69 = .ok (.aload_n 0, 1) := by decide +kernel
theorem dX7_passDay_70 : decode cX7_passDay 70 = .ok (.iload_n 1, 1) := by decide +kernel
theorem dX7_passDay_71 : decode cX7_passDay 71 = .ok (.putfield 21, 3) := by decide +kernel
theorem dX7_passDay_74 : decode cX7_passDay 74 = .ok (.return_, 1) := by decide +kernel
theorem dX8_init_0 : decode cX8_init 0 = .ok (.aload_n 0, 1) := by decide +kernel
theorem dX8_init_1 : decode cX8_init 1 = .ok (.invokespecial 3, 3) := by decide +kernel
theorem dX8_init_4 : decode cX8_init 4 = .ok (.aload_n 0, 1) := by decide +kernel
theorem dX8_init_5 : decode cX8_init 5 = .ok (.bipush 12, 2) := by decide +kernel
theorem dX8_init_7 : decode cX8_init 7 = .ok (.newarray .int, 2) := by decide +kernel
theorem dX8_init_9 : decode cX8_init 9 = .ok (.putfield 9, 3) := by decide +kernel
theorem dX8_init_12 : decode cX8_init 12 = .ok (.aload_n 0, 1) := by decide +kernel
theorem dX8_init_13 : decode cX8_init 13 = .ok (.bipush 12, 2) := by decide +kernel
theorem dX8_init_15 : decode cX8_init 15 = .ok (.newarray .int, 2) := by decide +kernel
theorem dX8_init_17 : decode cX8_init 17 = .ok (.putfield 15, 3) := by decide +kernel
theorem dX8_init_20 : decode cX8_init 20 = .ok (.return_, 1) := by decide +kernel
theorem dX8_setKeys_0 : decode cX8_setKeys 0 = .ok (.aload_n 0, 1) := by decide +kernel
theorem dX8_setKeys_1 : decode cX8_setKeys 1 = .ok (.getfield 9, 3) := by decide +kernel
theorem dX8_setKeys_4 : decode cX8_setKeys 4 = .ok (.iload_n 1, 1) := by decide +kernel
theorem dX8_setKeys_5 : decode cX8_setKeys 5 = .ok (.iload_n 2, 1) := by decide +kernel
theorem dX8_setKeys_6 : decode cX8_setKeys 6 = .ok (.iastore, 1) := by decide +kernel
theorem dX8_setKeys_7 : decode cX8_setKeys 7 = .ok (.aload_n 0, 1) := by decide +kernel
theorem dX8_setKeys_8 : decode cX8_setKeys 8 = .ok (.getfield 15, 3) := by decide +kernel
theorem dX8_setKeys_11 : decode cX8_setKeys 11 = .ok (.iload_n 1, 1) := by decide +kernel
theorem dX8_setKeys_12 : decode cX8_setKeys 12 = .ok (.iload_n 3, 1) := by decide +kernel
theorem dX8_setKeys_13 : decode cX8_setKeys 13 = .ok (.iastore, 1) := by decide +kernel
theorem dX8_setKeys_14 : decode cX8_setKeys 14 = .ok (.return_, 1) := by decide +kernel
set_option maxRecDepth 20000 in
theorem ggX8_balconyAt_X8_countAhead : GoodIn wsX8_balconyAt wsX8_countAhead := goodIn_r _ [5, 6, 7, 8, 4, 9, 10, 11, 12, 13] (by decide +kernel) (by decide +kernel)
set_option maxRecDepth 20000 in
theorem gX8_balconyAt_X8_countAhead : GoodIn wsX8_balconyAt (wsV RX8 18 RX8 yX8_countAhead wsX8_countAhead) := goodIn_app (goodIn_of _ (by decide +kernel)) ggX8_balconyAt_X8_countAhead
theorem dX8_balconyAt_0 : decode cX8_balconyAt 0 = .ok (.iconst 0, 1) := by decide +kernel
theorem dX8_balconyAt_1 : decode cX8_balconyAt 1 = .ok (.istore_n 2, 1) := by decide +kernel
theorem dX8_balconyAt_2 : decode cX8_balconyAt 2 = .ok (.iload_n 2, 1) := by decide +kernel
theorem dX8_balconyAt_3 : decode cX8_balconyAt 3 = .ok (.bipush 12, 2) := by decide +kernel
theorem dX8_balconyAt_5 : decode cX8_balconyAt 5 = .ok (.if_icmp .ge 20, 3) := by decide +kernel
theorem dX8_balconyAt_8 : decode cX8_balconyAt 8 = .ok (.aload_n 0, 1) := by decide +kernel
theorem dX8_balconyAt_9 : decode cX8_balconyAt 9 = .ok (.iload_n 2, 1) := by decide +kernel
theorem dX8_balconyAt_10 : decode cX8_balconyAt 10 = .ok (.invokevirtual 18, 3) := by decide +kernel
theorem dX8_balconyAt_13 : decode cX8_balconyAt 13 = .ok (.iload_n 1, 1) := by decide +kernel
theorem dX8_balconyAt_14 : decode cX8_balconyAt 14 = .ok (.if_icmp .ne 5, 3) := by decide +kernel
theorem dX8_balconyAt_17 : decode cX8_balconyAt 17 = .ok (.iload_n 2, 1) := by decide +kernel
theorem dX8_balconyAt_18 : decode cX8_balconyAt 18 = .ok (.ireturn, 1) := by decide +kernel
theorem dX8_balconyAt_19 : decode cX8_balconyAt 19 = .ok (.iinc 2 1, 3) := by decide +kernel
theorem dX8_balconyAt_22 : decode cX8_balconyAt 22 = .ok (.goto (-20), 3) := by decide +kernel
theorem dX8_balconyAt_25 : decode cX8_balconyAt 25 = .ok (.iconst (-1), 1) := by decide +kernel
theorem dX8_balconyAt_26 : decode cX8_balconyAt 26 = .ok (.ireturn, 1) := by decide +kernel
set_option maxRecDepth 20000 in
theorem ggX8_countAhead_X8_isAhead : GoodIn wsX8_countAhead wsX8_isAhead := goodIn_r _ [5, 6, 7, 8, 9] (by decide +kernel) (by decide +kernel)
set_option maxRecDepth 20000 in
theorem gX8_countAhead_X8_isAhead : GoodIn wsX8_countAhead (wsV RX8 22 RX8 yX8_isAhead wsX8_isAhead) := goodIn_app (goodIn_of _ (by decide +kernel)) ggX8_countAhead_X8_isAhead
theorem dX8_countAhead_0 : decode cX8_countAhead 0 = .ok (.iconst 0, 1) := by decide +kernel
theorem dX8_countAhead_1 : decode cX8_countAhead 1 = .ok (.istore_n 2, 1) := by decide +kernel
theorem dX8_countAhead_2 : decode cX8_countAhead 2 = .ok (.iconst 0, 1) := by decide +kernel
theorem dX8_countAhead_3 : decode cX8_countAhead 3 = .ok (.istore_n 3, 1) := by decide +kernel
theorem dX8_countAhead_4 : decode cX8_countAhead 4 = .ok (.iload_n 3, 1) := by decide +kernel
theorem dX8_countAhead_5 : decode cX8_countAhead 5 = .ok (.bipush 12, 2) := by decide +kernel
theorem dX8_countAhead_7 : decode cX8_countAhead 7 = .ok (.if_icmp .ge 21, 3) := by decide +kernel
theorem dX8_countAhead_10 : decode cX8_countAhead 10 = .ok (.aload_n 0, 1) := by decide +kernel
theorem dX8_countAhead_11 : decode cX8_countAhead 11 = .ok (.iload_n 3, 1) := by decide +kernel
theorem dX8_countAhead_12 : decode cX8_countAhead 12 = .ok (.iload_n 1, 1) := by decide +kernel
theorem dX8_countAhead_13 : decode cX8_countAhead 13 = .ok (.invokevirtual 22, 3) := by decide +kernel
theorem dX8_countAhead_16 : decode cX8_countAhead 16 = .ok (.ifCond .eq 6, 3) := by decide +kernel
theorem dX8_countAhead_19 : decode cX8_countAhead 19 = .ok (.iinc 2 1, 3) := by decide +kernel
theorem dX8_countAhead_22 : decode cX8_countAhead 22 = .ok (.iinc 3 1, 3) := by decide +kernel
theorem dX8_countAhead_25 : decode cX8_countAhead 25 = .ok (.goto (-21), 3) := by decide +kernel
theorem dX8_countAhead_28 : decode cX8_countAhead 28 = .ok (.iload_n 2, 1) := by decide +kernel
theorem dX8_countAhead_29 : decode cX8_countAhead 29 = .ok (.ireturn, 1) := by decide +kernel
theorem dX8_isAhead_0 : decode cX8_isAhead 0 = .ok (.aload_n 0, 1) := by decide +kernel
theorem dX8_isAhead_1 : decode cX8_isAhead 1 = .ok (.getfield 9, 3) := by decide +kernel
theorem dX8_isAhead_4 : decode cX8_isAhead 4 = .ok (.iload_n 1, 1) := by decide +kernel
theorem dX8_isAhead_5 : decode cX8_isAhead 5 = .ok (.iaload, 1) := by decide +kernel
theorem dX8_isAhead_6 : decode cX8_isAhead 6 = .ok (.aload_n 0, 1) := by decide +kernel
theorem dX8_isAhead_7 : decode cX8_isAhead 7 = .ok (.getfield 9, 3) := by decide +kernel
theorem dX8_isAhead_10 : decode cX8_isAhead 10 = .ok (.iload_n 2, 1) := by decide +kernel
theorem dX8_isAhead_11 : decode cX8_isAhead 11 = .ok (.iaload, 1) := by decide +kernel
theorem dX8_isAhead_12 : decode cX8_isAhead 12 = .ok (.if_icmp .eq 24, 3) := by decide +kernel
theorem dX8_isAhead_15 : decode cX8_isAhead 15 = .ok (.aload_n 0, 1) := by decide +kernel
theorem dX8_isAhead_16 : decode cX8_isAhead 16 = .ok (.getfield 9, 3) := by decide +kernel
theorem dX8_isAhead_19 : decode cX8_isAhead 19 = .ok (.iload_n 1, 1) := by decide +kernel
theorem dX8_isAhead_20 : decode cX8_isAhead 20 = .ok (.iaload, 1) := by decide +kernel
theorem dX8_isAhead_21 : decode cX8_isAhead 21 = .ok (.aload_n 0, 1) := by decide +kernel
theorem dX8_isAhead_22 : decode cX8_isAhead 22 = .ok (.getfield 9, 3) := by decide +kernel
theorem dX8_isAhead_25 : decode cX8_isAhead 25 = .ok (.iload_n 2, 1) := by decide +kernel
theorem dX8_isAhead_26 : decode cX8_isAhead 26 = .ok (.iaload, 1) := by decide +kernel
theorem dX8_isAhead_27 : decode cX8_isAhead 27 = .ok (.if_icmp .le 7, 3) := by decide +kernel
theorem dX8_isAhead_30 : decode cX8_isAhead 30 = .ok (.iconst 1, 1) := by decide +kernel
theorem dX8_isAhead_31 : decode cX8_isAhead 31 = .ok (.goto 4, 3) := by decide +kernel
theorem dX8_isAhead_34 : decode cX8_isAhead 34 = .ok (.iconst 0, 1) := by decide +kernel
theorem dX8_isAhead_35 : decode cX8_isAhead 35 = .ok (.ireturn, 1) := by decide +kernel
theorem dX8_isAhead_36 : decode cX8_isAhead 36 = .ok (.aload_n 0, 1) := by decide +kernel
theorem dX8_isAhead_37 : decode cX8_isAhead 37 = .ok (.getfield 15, 3) := by decide +kernel
theorem dX8_isAhead_40 : decode cX8_isAhead 40 = .ok (.iload_n 1, 1) := by decide +kernel
theorem dX8_isAhead_41 : decode cX8_isAhead 41 = .ok (.iaload, 1) := by decide +kernel
theorem dX8_isAhead_42 : decode cX8_isAhead 42 = .ok (.aload_n 0, 1) := by decide +kernel
theorem dX8_isAhead_43 : decode cX8_isAhead 43 = .ok (.getfield 15, 3) := by decide +kernel
theorem dX8_isAhead_46 : decode cX8_isAhead 46 = .ok (.iload_n 2, 1) := by decide +kernel
theorem dX8_isAhead_47 : decode cX8_isAhead 47 = .ok (.iaload, 1) := by decide +kernel
theorem dX8_isAhead_48 : decode cX8_isAhead 48 = .ok (.if_icmp .eq 24, 3) := by decide +kernel
theorem dX8_isAhead_51 : decode cX8_isAhead 51 = .ok (.aload_n 0, 1) := by decide +kernel
theorem dX8_isAhead_52 : decode cX8_isAhead 52 = .ok (.getfield 15, 3) := by decide +kernel
theorem dX8_isAhead_55 : decode cX8_isAhead 55 = .ok (.iload_n 1, 1) := by decide +kernel
theorem dX8_isAhead_56 : decode cX8_isAhead 56 = .ok (.iaload, 1) := by decide +kernel
theorem dX8_isAhead_57 : decode cX8_isAhead 57 = .ok (.aload_n 0, 1) := by decide +kernel
theorem dX8_isAhead_58 : decode cX8_isAhead 58 = .ok (.getfield 15, 3) := by decide +kernel
theorem dX8_isAhead_61 : decode cX8_isAhead 61 = .ok (.iload_n 2, 1) := by decide +kernel
theorem dX8_isAhead_62 : decode cX8_isAhead 62 = .ok (.iaload, 1) := by decide +kernel
theorem dX8_isAhead_63 : decode cX8_isAhead 63 = .ok (.if_icmp .le 7, 3) := by decide +kernel
theorem dX8_isAhead_66 : decode cX8_isAhead 66 = .ok (.iconst 1, 1) := by decide +kernel
theorem dX8_isAhead_67 : decode cX8_isAhead 67 = .ok (.goto 4, 3) := by decide +kernel
theorem dX8_isAhead_70 : decode cX8_isAhead 70 = .ok (.iconst 0, 1) := by decide +kernel
theorem dX8_isAhead_71 : decode cX8_isAhead 71 = .ok (.ireturn, 1) := by decide +kernel
theorem dX8_isAhead_72 : decode cX8_isAhead 72 = .ok (.iload_n 1, 1) := by decide +kernel
theorem dX8_isAhead_73 : decode cX8_isAhead 73 = .ok (.iload_n 2, 1) := by decide +kernel
theorem dX8_isAhead_74 : decode cX8_isAhead 74 = .ok (.if_icmp .ge 7, 3) := by decide +kernel
theorem dX8_isAhead_77 : decode cX8_isAhead 77 = .ok (.iconst 1, 1) := by decide +kernel
theorem dX8_isAhead_78 : decode cX8_isAhead 78 = .ok (.goto 4, 3) := by decide +kernel
theorem dX8_isAhead_81 : decode cX8_isAhead 81 = .ok (.iconst 0, 1) := by decide +kernel
theorem dX8_isAhead_82 : decode cX8_isAhead 82 = .ok (.ireturn, 1) := by decide +kernel
theorem dX9_init_0 : decode cX9_init 0 = .ok (.aload_n 0, 1) := by decide +kernel
theorem dX9_init_1 : decode cX9_init 1 = .ok (.invokespecial 3, 3) := by decide +kernel
theorem dX9_init_4 : decode cX9_init 4 = .ok (.aload_n 0, 1) := by decide +kernel
theorem dX9_init_5 : decode cX9_init 5 = .ok (.bipush 12, 2) := by decide +kernel
theorem dX9_init_7 : decode cX9_init 7 = .ok (.newarray .int, 2) := by decide +kernel
theorem dX9_init_9 : decode cX9_init 9 = .ok (.putfield 9, 3) := by decide +kernel
theorem dX9_init_12 : decode cX9_init 12 = .ok (.aload_n 0, 1) := by decide +kernel
theorem dX9_init_13 : decode cX9_init 13 = .ok (.bipush 12, 2) := by decide +kernel
theorem dX9_init_15 : decode cX9_init 15 = .ok (.newarray .int, 2) := by decide +kernel
theorem dX9_init_17 : decode cX9_init 17 = .ok (.putfield 15, 3) := by decide +kernel
theorem dX9_init_20 : decode cX9_init 20 = .ok (.return_, 1) := by decide +kernel
set_option maxRecDepth 20000 in
theorem ggX9_walkFrom_J7_fill_53178 : GoodIn wsX9_walkFrom wsJ7_fill_53178 := goodIn_r _ [5] (by decide +kernel) (by decide +kernel)
set_option maxRecDepth 20000 in
theorem gX9_walkFrom_J7_fill_53178 : GoodIn wsX9_walkFrom (va_wsS RX9 18 yJ7_fill_53178 wsJ7_fill_53178) := goodIn_app (goodIn_of _ (by decide +kernel)) ggX9_walkFrom_J7_fill_53178
set_option maxRecDepth 20000 in
theorem ggX9_walkFrom_X9_walkOn : GoodIn wsX9_walkFrom wsX9_walkOn := goodIn_r _ [10, 1, 11, 12, 13, 14, 15, 16, 17, 18, 19, 20, 21, 22, 23, 24, 25, 26, 27, 28, 29, 30, 31, 32, 33, 34, 35, 36, 37, 38, 39, 40, 41, 42, 43, 44, 45, 46, 47, 48, 49, 50, 51, 52, 53, 54, 55, 56, 57] (by decide +kernel) (by decide +kernel)
set_option maxRecDepth 20000 in
theorem gX9_walkFrom_X9_walkOn : GoodIn wsX9_walkFrom (wsV RX9 24 RX9 yX9_walkOn wsX9_walkOn) := goodIn_app (goodIn_of _ (by decide +kernel)) ggX9_walkFrom_X9_walkOn
theorem dX9_walkFrom_0 : decode cX9_walkFrom 0 = .ok (.aload_n 0, 1) := by decide +kernel
theorem dX9_walkFrom_1 : decode cX9_walkFrom 1 = .ok (.getfield 9, 3) := by decide +kernel
theorem dX9_walkFrom_4 : decode cX9_walkFrom 4 = .ok (.bipush (-4), 2) := by decide +kernel
theorem dX9_walkFrom_6 : decode cX9_walkFrom 6 = .ok (.invokestatic 18, 3) := by decide +kernel
theorem dX9_walkFrom_9 : decode cX9_walkFrom 9 = .ok (.aload_n 0, 1) := by decide +kernel
theorem dX9_walkFrom_10 : decode cX9_walkFrom 10 = .ok (.getfield 9, 3) := by decide +kernel
theorem dX9_walkFrom_13 : decode cX9_walkFrom 13 = .ok (.iload_n 2, 1) := by decide +kernel
theorem dX9_walkFrom_14 : decode cX9_walkFrom 14 = .ok (.iconst 0, 1) := by decide +kernel
theorem dX9_walkFrom_15 : decode cX9_walkFrom 15 = .ok (.iastore, 1) := by decide +kernel
theorem dX9_walkFrom_16 : decode cX9_walkFrom 16 = .ok (.iconst 0, 1) := by decide +kernel
theorem dX9_walkFrom_17 : decode cX9_walkFrom 17 = .ok (.istore_n 3, 1) := by decide +kernel
theorem dX9_walkFrom_18 : decode cX9_walkFrom 18 = .ok (.iload_n 3, 1) := by decide +kernel
theorem dX9_walkFrom_19 : decode cX9_walkFrom 19 = .ok (.bipush 12, 2) := by decide +kernel
theorem dX9_walkFrom_21 : decode cX9_walkFrom 21 = .ok (.if_icmp .ge 43, 3) := by decide +kernel
theorem dX9_walkFrom_24 : decode cX9_walkFrom 24 = .ok (.iconst 0, 1) := by decide +kernel
theorem dX9_walkFrom_25 : decode cX9_walkFrom 25 = .ok (.istore 4, 2) := by decide +kernel
theorem dX9_walkFrom_27 : decode cX9_walkFrom 27 = .ok (.iload 4, 2) := by decide +kernel
theorem dX9_walkFrom_29 : decode cX9_walkFrom 29 = .ok (.bipush 12, 2) := by decide +kernel
theorem dX9_walkFrom_31 : decode cX9_walkFrom 31 = .ok (.if_icmp .ge 27, 3) := by decide +kernel
theorem dX9_walkFrom_34 : decode cX9_walkFrom 34 = .ok (.aload_n 0, 1) := by decide +kernel
theorem dX9_walkFrom_35 : decode cX9_walkFrom 35 = .ok (.getfield 9, 3) := by decide +kernel
theorem dX9_walkFrom_38 : decode cX9_walkFrom 38 = .ok (.iload 4, 2) := by decide +kernel
theorem dX9_walkFrom_40 : decode cX9_walkFrom 40 = .ok (.iaload, 1) := by decide +kernel
theorem dX9_walkFrom_41 : decode cX9_walkFrom 41 = .ok (.iload_n 3, 1) := by decide +kernel
theorem dX9_walkFrom_42 : decode cX9_walkFrom 42 = .ok (.if_icmp .ne 10, 3) := by decide +kernel
theorem dX9_walkFrom_45 : decode cX9_walkFrom 45 = .ok (.aload_n 0, 1) := by decide +kernel
theorem dX9_walkFrom_46 : decode cX9_walkFrom 46 = .ok (.aload_n 1, 1) := by decide +kernel
theorem dX9_walkFrom_47 : decode cX9_walkFrom 47 = .ok (.iload 4, 2) := by decide +kernel
theorem dX9_walkFrom_49 : decode cX9_walkFrom 49 = .ok (.invokevirtual 24, 3) := by decide +kernel
theorem dX9_walkFrom_52 : decode cX9_walkFrom 52 = .ok (.iinc 4 1, 3) := by decide +kernel
theorem dX9_walkFrom_55 : decode cX9_walkFrom 55 = .ok (.goto (-28), 3) := by decide +kernel
theorem dX9_walkFrom_58 : decode cX9_walkFrom 58 = .ok (.iinc 3 1, 3) := by decide +kernel
theorem dX9_walkFrom_61 : decode cX9_walkFrom 61 = .ok (.goto (-43), 3) := by decide +kernel
theorem dX9_walkFrom_64 : decode cX9_walkFrom 64 = .ok (.return_, 1) := by decide +kernel
set_option maxRecDepth 20000 in
theorem ggX9_walkOn_X6_stepFrom : GoodIn wsX9_walkOn wsX6_stepFrom := goodIn_r _ [6, 7, 8, 5, 9, 10, 11, 12, 13, 14, 15, 16, 17, 18, 19, 20, 21, 22, 23, 24, 25, 26, 27, 28, 29, 30, 31, 34, 35, 36, 37, 38, 39, 40, 41, 42, 43, 44, 45, 46, 47, 48] (by decide +kernel) (by decide +kernel)
set_option maxRecDepth 20000 in
theorem gX9_walkOn_X6_stepFrom : GoodIn wsX9_walkOn (wsV RX9 28 RX6 yX6_stepFrom wsX6_stepFrom) := goodIn_app (goodIn_of _ (by decide +kernel)) ggX9_walkOn_X6_stepFrom
theorem dX9_walkOn_0 : decode cX9_walkOn 0 = .ok (.iconst 0, 1) := by decide +kernel
theorem dX9_walkOn_1 : decode cX9_walkOn 1 = .ok (.istore_n 3, 1) := by decide +kernel
theorem dX9_walkOn_2 : decode cX9_walkOn 2 = .ok (.iload_n 3, 1) := by decide +kernel
theorem dX9_walkOn_3 : decode cX9_walkOn 3 = .ok (.iconst 4, 1) := by decide +kernel
theorem dX9_walkOn_4 : decode cX9_walkOn 4 = .ok (.if_icmp .ge 49, 3) := by decide +kernel
theorem dX9_walkOn_7 : decode cX9_walkOn 7 = .ok (.aload_n 1, 1) := by decide +kernel
theorem dX9_walkOn_8 : decode cX9_walkOn 8 = .ok (.iload_n 2, 1) := by decide +kernel
theorem dX9_walkOn_9 : decode cX9_walkOn 9 = .ok (.iload_n 3, 1) := by decide +kernel
theorem dX9_walkOn_10 : decode cX9_walkOn 10 = .ok (.invokevirtual 28, 3) := by decide +kernel
theorem dX9_walkOn_13 : decode cX9_walkOn 13 = .ok (.istore 4, 2) := by decide +kernel
theorem dX9_walkOn_15 : decode cX9_walkOn 15 = .ok (.iload 4, 2) := by decide +kernel
theorem dX9_walkOn_17 : decode cX9_walkOn 17 = .ok (.ifCond .lt 30, 3) := by decide +kernel
theorem dX9_walkOn_20 : decode cX9_walkOn 20 = .ok (.aload_n 0, 1) := by decide +kernel
theorem dX9_walkOn_21 : decode cX9_walkOn 21 = .ok (.getfield 9, 3) := by decide +kernel
theorem dX9_walkOn_24 : decode cX9_walkOn 24 = .ok (.iload 4, 2) := by decide +kernel
theorem dX9_walkOn_26 : decode cX9_walkOn 26 = .ok (.iaload, 1) := by decide +kernel
theorem dX9_walkOn_27 : decode cX9_walkOn 27 = .ok (.bipush (-4), 2) := by decide +kernel
theorem dX9_walkOn_29 : decode cX9_walkOn 29 = .ok (.if_icmp .ne 18, 3) := by decide +kernel
theorem dX9_walkOn_32 : decode cX9_walkOn 32 = .ok (.aload_n 0, 1) := by decide +kernel
theorem dX9_walkOn_33 : decode cX9_walkOn 33 = .ok (.getfield 9, 3) := by decide +kernel
theorem dX9_walkOn_36 : decode cX9_walkOn 36 = .ok (.iload 4, 2) := by decide +kernel
theorem dX9_walkOn_38 : decode cX9_walkOn 38 = .ok (.aload_n 0, 1) := by decide +kernel
theorem dX9_walkOn_39 : decode cX9_walkOn 39 = .ok (.getfield 9, 3) := by decide +kernel
theorem dX9_walkOn_42 : decode cX9_walkOn 42 = .ok (.iload_n 2, 1) := by decide +kernel
theorem dX9_walkOn_43 : decode cX9_walkOn 43 = .ok (.iaload, 1) := by decide +kernel
theorem dX9_walkOn_44 : decode cX9_walkOn 44 = .ok (.iconst 1, 1) := by decide +kernel
theorem dX9_walkOn_45 : decode cX9_walkOn 45 = .ok (.iadd, 1) := by decide +kernel
theorem dX9_walkOn_46 : decode cX9_walkOn 46 = .ok (.iastore, 1) := by decide +kernel
theorem dX9_walkOn_47 : decode cX9_walkOn 47 = .ok (.iinc 3 1, 3) := by decide +kernel
theorem dX9_walkOn_50 : decode cX9_walkOn 50 = .ok (.goto (-48), 3) := by decide +kernel
theorem dX9_walkOn_53 : decode cX9_walkOn 53 = .ok (.return_, 1) := by decide +kernel
set_option maxRecDepth 20000 in
theorem ggX9_lessenFrom_J7_fill_53178 : GoodIn wsX9_lessenFrom wsJ7_fill_53178 := goodIn_r _ [5] (by decide +kernel) (by decide +kernel)
set_option maxRecDepth 20000 in
theorem gX9_lessenFrom_J7_fill_53178 : GoodIn wsX9_lessenFrom (va_wsS RX9 18 yJ7_fill_53178 wsJ7_fill_53178) := goodIn_app (goodIn_of _ (by decide +kernel)) ggX9_lessenFrom_J7_fill_53178
set_option maxRecDepth 20000 in
theorem ggX9_lessenFrom_X9_lessenBeside : GoodIn wsX9_lessenFrom wsX9_lessenBeside := goodIn_r _ [10, 1, 11, 12, 13, 14, 15, 16, 17, 18, 19, 20, 21, 22, 23, 24, 25, 26, 27, 28, 29, 30, 31, 32, 33, 34, 35, 36, 37, 38, 39, 40, 41, 42, 43, 44, 45, 46, 47, 48, 49, 50, 51, 52, 53, 54, 55, 56, 57] (by decide +kernel) (by decide +kernel)
set_option maxRecDepth 20000 in
theorem gX9_lessenFrom_X9_lessenBeside : GoodIn wsX9_lessenFrom (wsV RX9 34 RX9 yX9_lessenBeside wsX9_lessenBeside) := goodIn_app (goodIn_of _ (by decide +kernel)) ggX9_lessenFrom_X9_lessenBeside
theorem dX9_lessenFrom_0 : decode cX9_lessenFrom 0 = .ok (.aload_n 0, 1) := by decide +kernel
theorem dX9_lessenFrom_1 : decode cX9_lessenFrom 1 = .ok (.getfield 15, 3) := by decide +kernel
theorem dX9_lessenFrom_4 : decode cX9_lessenFrom 4 = .ok (.sipush 1000, 3) := by decide +kernel
theorem dX9_lessenFrom_7 : decode cX9_lessenFrom 7 = .ok (.invokestatic 18, 3) := by decide +kernel
theorem dX9_lessenFrom_10 : decode cX9_lessenFrom 10 = .ok (.aload_n 0, 1) := by decide +kernel
theorem dX9_lessenFrom_11 : decode cX9_lessenFrom 11 = .ok (.getfield 15, 3) := by decide +kernel
theorem dX9_lessenFrom_14 : decode cX9_lessenFrom 14 = .ok (.iload_n 2, 1) := by decide +kernel
theorem dX9_lessenFrom_15 : decode cX9_lessenFrom 15 = .ok (.iconst 0, 1) := by decide +kernel
theorem dX9_lessenFrom_16 : decode cX9_lessenFrom 16 = .ok (.iastore, 1) := by decide +kernel
theorem dX9_lessenFrom_17 : decode cX9_lessenFrom 17 = .ok (.iconst 1, 1) := by decide +kernel
theorem dX9_lessenFrom_18 : decode cX9_lessenFrom 18 = .ok (.istore_n 3, 1) := by decide +kernel
theorem dX9_lessenFrom_19 : decode cX9_lessenFrom 19 = .ok (.iconst 0, 1) := by decide +kernel
theorem dX9_lessenFrom_20 : decode cX9_lessenFrom 20 = .ok (.istore 4, 2) := by decide +kernel
theorem dX9_lessenFrom_22 : decode cX9_lessenFrom 22 = .ok (.iload 4, 2) := by decide +kernel
theorem dX9_lessenFrom_24 : decode cX9_lessenFrom 24 = .ok (.bipush 12, 2) := by decide +kernel
theorem dX9_lessenFrom_26 : decode cX9_lessenFrom 26 = .ok (.if_icmp .ge 43, 3) := by decide +kernel
theorem dX9_lessenFrom_29 : decode cX9_lessenFrom 29 = .ok (.iload_n 3, 1) := by decide +kernel
theorem dX9_lessenFrom_30 : decode cX9_lessenFrom 30 = .ok (.ifCond .eq 39, 3) := by decide +kernel
theorem dX9_lessenFrom_33 : decode cX9_lessenFrom 33 = .ok (.iconst 0, 1) := by decide +kernel
theorem dX9_lessenFrom_34 : decode cX9_lessenFrom 34 = .ok (.istore_n 3, 1) := by decide +kernel
theorem dX9_lessenFrom_35 : decode cX9_lessenFrom 35 = .ok (.iconst 0, 1) := by decide +kernel
theorem dX9_lessenFrom_36 : decode cX9_lessenFrom 36 = .ok (.istore 5, 2) := by decide +kernel
theorem dX9_lessenFrom_38 : decode cX9_lessenFrom 38 = .ok (.iload 5, 2) := by decide +kernel
theorem dX9_lessenFrom_40 : decode cX9_lessenFrom 40 = .ok (.bipush 12, 2) := by decide +kernel
theorem dX9_lessenFrom_42 : decode cX9_lessenFrom 42 = .ok (.if_icmp .ge 21, 3) := by decide +kernel
theorem dX9_lessenFrom_45 : decode cX9_lessenFrom 45 = .ok (.aload_n 0, 1) := by decide +kernel
theorem dX9_lessenFrom_46 : decode cX9_lessenFrom 46 = .ok (.aload_n 1, 1) := by decide +kernel
theorem dX9_lessenFrom_47 : decode cX9_lessenFrom 47 = .ok (.iload 5, 2) := by decide +kernel
theorem dX9_lessenFrom_49 : decode cX9_lessenFrom 49 = .ok (.invokevirtual 34, 3) := by decide +kernel
theorem dX9_lessenFrom_52 : decode cX9_lessenFrom 52 = .ok (.ifCond .eq 5, 3) := by decide +kernel
theorem dX9_lessenFrom_55 : decode cX9_lessenFrom 55 = .ok (.iconst 1, 1) := by decide +kernel
theorem dX9_lessenFrom_56 : decode cX9_lessenFrom 56 = .ok (.istore_n 3, 1) := by decide +kernel
theorem dX9_lessenFrom_57 : decode cX9_lessenFrom 57 = .ok (.iinc 5 1, 3) := by decide +kernel
theorem dX9_lessenFrom_60 : decode cX9_lessenFrom 60 = .ok (.goto (-22), 3) := by decide +kernel
theorem dX9_lessenFrom_63 : decode cX9_lessenFrom 63 = .ok (.iinc 4 1, 3) := by decide +kernel
theorem dX9_lessenFrom_66 : decode cX9_lessenFrom 66 = .ok (.goto (-44), 3) := by decide +kernel
theorem dX9_lessenFrom_69 : decode cX9_lessenFrom 69 = .ok (.iconst 0, 1) := by decide +kernel
theorem dX9_lessenFrom_70 : decode cX9_lessenFrom 70 = .ok (.istore 4, 2) := by decide +kernel
theorem dX9_lessenFrom_72 : decode cX9_lessenFrom 72 = .ok (.iload 4, 2) := by decide +kernel
theorem dX9_lessenFrom_74 : decode cX9_lessenFrom 74 = .ok (.bipush 12, 2) := by decide +kernel
theorem dX9_lessenFrom_76 : decode cX9_lessenFrom 76 = .ok (.if_icmp .ge 31, 3) := by decide +kernel
theorem dX9_lessenFrom_79 : decode cX9_lessenFrom 79 = .ok (.aload_n 0, 1) := by decide +kernel
theorem dX9_lessenFrom_80 : decode cX9_lessenFrom 80 = .ok (.getfield 15, 3) := by decide +kernel
theorem dX9_lessenFrom_83 : decode cX9_lessenFrom 83 = .ok (.iload 4, 2) := by decide +kernel
theorem dX9_lessenFrom_85 : decode cX9_lessenFrom 85 = .ok (.iaload, 1) := by decide +kernel
theorem dX9_lessenFrom_86 : decode cX9_lessenFrom 86 = .ok (.sipush 1000, 3) := by decide +kernel
theorem dX9_lessenFrom_89 : decode cX9_lessenFrom 89 = .ok (.if_icmp .lt 12, 3) := by decide +kernel
theorem dX9_lessenFrom_92 : decode cX9_lessenFrom 92 = .ok (.aload_n 0, 1) := by decide +kernel
theorem dX9_lessenFrom_93 : decode cX9_lessenFrom 93 = .ok (.getfield 15, 3) := by decide +kernel
theorem dX9_lessenFrom_96 : decode cX9_lessenFrom 96 = .ok (.iload 4, 2) := by decide +kernel
theorem dX9_lessenFrom_98 : decode cX9_lessenFrom 98 = .ok (.bipush (-4), 2) := by decide +kernel
theorem dX9_lessenFrom_100 : decode cX9_lessenFrom 100 = .ok (.iastore, 1) := by decide +kernel
theorem dX9_lessenFrom_101 : decode cX9_lessenFrom 101 = .ok (.iinc 4 1, 3) := by decide +kernel
theorem dX9_lessenFrom_104 : decode cX9_lessenFrom 104 = .ok (.goto (-32), 3) := by decide +kernel
theorem dX9_lessenFrom_107 : decode cX9_lessenFrom 107 = .ok (.return_, 1) := by decide +kernel
set_option maxRecDepth 20000 in
theorem ggX9_lessenBeside_X6_stepFrom : GoodIn wsX9_lessenBeside wsX6_stepFrom := goodIn_r _ [6, 7, 8, 5, 9, 10, 11, 12, 13, 14, 15, 16, 17, 18, 19, 20, 21, 22, 23, 24, 25, 26, 27, 28, 29, 30, 31, 34, 35, 36, 37, 38, 39, 40, 41, 42, 43, 44, 45, 46, 47, 48] (by decide +kernel) (by decide +kernel)
set_option maxRecDepth 20000 in
theorem gX9_lessenBeside_X6_stepFrom : GoodIn wsX9_lessenBeside (wsV RX9 28 RX6 yX6_stepFrom wsX6_stepFrom) := goodIn_app (goodIn_of _ (by decide +kernel)) ggX9_lessenBeside_X6_stepFrom
theorem dX9_lessenBeside_0 : decode cX9_lessenBeside 0 = .ok (.iconst 0, 1) := by decide +kernel
theorem dX9_lessenBeside_1 : decode cX9_lessenBeside 1 = .ok (.istore_n 3, 1) := by decide +kernel
theorem dX9_lessenBeside_2 : decode cX9_lessenBeside 2 = .ok (.iconst 0, 1) := by decide +kernel
theorem dX9_lessenBeside_3 : decode cX9_lessenBeside 3 = .ok (.istore 4, 2) := by decide +kernel
theorem dX9_lessenBeside_5 : decode cX9_lessenBeside 5 = .ok (.iload 4, 2) := by decide +kernel
theorem dX9_lessenBeside_7 : decode cX9_lessenBeside 7 = .ok (.iconst 4, 1) := by decide +kernel
theorem dX9_lessenBeside_8 : decode cX9_lessenBeside 8 = .ok (.if_icmp .ge 58, 3) := by decide +kernel
theorem dX9_lessenBeside_11 : decode cX9_lessenBeside 11 = .ok (.aload_n 1, 1) := by decide +kernel
theorem dX9_lessenBeside_12 : decode cX9_lessenBeside 12 = .ok (.iload_n 2, 1) := by decide +kernel
theorem dX9_lessenBeside_13 : decode cX9_lessenBeside 13 = .ok (.iload 4, 2) := by decide +kernel
theorem dX9_lessenBeside_15 : decode cX9_lessenBeside 15 = .ok (.invokevirtual 28, 3) := by decide +kernel
theorem dX9_lessenBeside_18 : decode cX9_lessenBeside 18 = .ok (.istore 5, 2) := by decide +kernel
theorem dX9_lessenBeside_20 : decode cX9_lessenBeside 20 = .ok (.iload 5, 2) := by decide +kernel
theorem dX9_lessenBeside_22 : decode cX9_lessenBeside 22 = .ok (.ifCond .lt 38, 3) := by decide +kernel
theorem dX9_lessenBeside_25 : decode cX9_lessenBeside 25 = .ok (.aload_n 0, 1) := by decide +kernel
theorem dX9_lessenBeside_26 : decode cX9_lessenBeside 26 = .ok (.getfield 15, 3) := by decide +kernel
theorem dX9_lessenBeside_29 : decode cX9_lessenBeside 29 = .ok (.iload_n 2, 1) := by decide +kernel
theorem dX9_lessenBeside_30 : decode cX9_lessenBeside 30 = .ok (.iaload, 1) := by decide +kernel
theorem dX9_lessenBeside_31 : decode cX9_lessenBeside 31 = .ok (.iconst 1, 1) := by decide +kernel
theorem dX9_lessenBeside_32 : decode cX9_lessenBeside 32 = .ok (.iadd, 1) := by decide +kernel
theorem dX9_lessenBeside_33 : decode cX9_lessenBeside 33 = .ok (.aload_n 0, 1) := by decide +kernel
theorem dX9_lessenBeside_34 : decode cX9_lessenBeside 34 = .ok (.getfield 15, 3) := by decide +kernel
theorem dX9_lessenBeside_37 : decode cX9_lessenBeside 37 = .ok (.iload 5, 2) := by decide +kernel
theorem dX9_lessenBeside_39 : decode cX9_lessenBeside 39 = .ok (.iaload, 1) := by decide +kernel
theorem dX9_lessenBeside_40 : decode cX9_lessenBeside 40 = .ok (.if_icmp .ge 20, 3) := by decide +kernel
theorem dX9_lessenBeside_43 : decode cX9_lessenBeside 43 = .ok (.aload_n 0, 1) := by decide +kernel
theorem dX9_lessenBeside_44 : decode cX9_lessenBeside 44 = .ok (.getfield 15, 3) := by decide +kernel
theorem dX9_lessenBeside_47 : decode cX9_lessenBeside 47 = .ok (.iload 5, 2) := by decide +kernel
theorem dX9_lessenBeside_49 : decode cX9_lessenBeside 49 = .ok (.aload_n 0, 1) := by decide +kernel
theorem dX9_lessenBeside_50 : decode cX9_lessenBeside 50 = .ok (.getfield 15, 3) := by decide +kernel
theorem dX9_lessenBeside_53 : decode cX9_lessenBeside 53 = .ok (.iload_n 2, 1) := by decide +kernel
theorem dX9_lessenBeside_54 : decode cX9_lessenBeside 54 = .ok (.iaload, 1) := by decide +kernel
theorem dX9_lessenBeside_55 : decode cX9_lessenBeside 55 = .ok (.iconst 1, 1) := by decide +kernel
theorem dX9_lessenBeside_56 : decode cX9_lessenBeside 56 = .ok (.iadd, 1) := by decide +kernel
theorem dX9_lessenBeside_57 : decode cX9_lessenBeside 57 = .ok (.iastore, 1) := by decide +kernel
theorem dX9_lessenBeside_58 : decode cX9_lessenBeside 58 = .ok (.iconst 1, 1) := by decide +kernel
theorem dX9_lessenBeside_59 : decode cX9_lessenBeside 59 = .ok (.istore_n 3, 1) := by decide +kernel
theorem dX9_lessenBeside_60 : decode cX9_lessenBeside 60 = .ok (.iinc 4 1, 3) := by decide +kernel
theorem dX9_lessenBeside_63 : decode cX9_lessenBeside 63 = .ok (.goto (-58), 3) := by decide +kernel
theorem dX9_lessenBeside_66 : decode cX9_lessenBeside 66 = .ok (.iload_n 3, 1) := by decide +kernel
theorem dX9_lessenBeside_67 : decode cX9_lessenBeside 67 = .ok (.ireturn, 1) := by decide +kernel
theorem dX9_areAlike_0 : decode cX9_areAlike 0 = .ok (.iconst 0, 1) := by decide +kernel
theorem dX9_areAlike_1 : decode cX9_areAlike 1 = .ok (.istore_n 1, 1) := by decide +kernel
theorem dX9_areAlike_2 : decode cX9_areAlike 2 = .ok (.iload_n 1, 1) := by decide +kernel
theorem dX9_areAlike_3 : decode cX9_areAlike 3 = .ok (.bipush 12, 2) := by decide +kernel
theorem dX9_areAlike_5 : decode cX9_areAlike 5 = .ok (.if_icmp .ge 26, 3) := by decide +kernel
theorem dX9_areAlike_8 : decode cX9_areAlike 8 = .ok (.aload_n 0, 1) := by decide +kernel
theorem dX9_areAlike_9 : decode cX9_areAlike 9 = .ok (.getfield 9, 3) := by decide +kernel
theorem dX9_areAlike_12 : decode cX9_areAlike 12 = .ok (.iload_n 1, 1) := by decide +kernel
theorem dX9_areAlike_13 : decode cX9_areAlike 13 = .ok (.iaload, 1) := by decide +kernel
theorem dX9_areAlike_14 : decode cX9_areAlike 14 = .ok (.aload_n 0, 1) := by decide +kernel
theorem dX9_areAlike_15 : decode cX9_areAlike 15 = .ok (.getfield 15, 3) := by decide +kernel
theorem dX9_areAlike_18 : decode cX9_areAlike 18 = .ok (.iload_n 1, 1) := by decide +kernel
theorem dX9_areAlike_19 : decode cX9_areAlike 19 = .ok (.iaload, 1) := by decide +kernel
theorem dX9_areAlike_20 : decode cX9_areAlike 20 = .ok (.if_icmp .eq 5, 3) := by decide +kernel
theorem dX9_areAlike_23 : decode cX9_areAlike 23 = .ok (.iconst 0, 1) := by decide +kernel
theorem dX9_areAlike_24 : decode cX9_areAlike 24 = .ok (.ireturn, 1) := by decide +kernel
theorem dX9_areAlike_25 : decode cX9_areAlike 25 = .ok (.iinc 1 1, 3) := by decide +kernel
theorem dX9_areAlike_28 : decode cX9_areAlike 28 = .ok (.goto (-26), 3) := by decide +kernel
theorem dX9_areAlike_31 : decode cX9_areAlike 31 = .ok (.iconst 1, 1) := by decide +kernel
theorem dX9_areAlike_32 : decode cX9_areAlike 32 = .ok (.ireturn, 1) := by decide +kernel
set_option maxRecDepth 20000 in
theorem ggX9_placeOnWay_X9_walkFrom : GoodIn wsX9_placeOnWay wsX9_walkFrom := goodIn_r _ [6, 1, 7, 8, 9, 10, 11, 12, 13, 5, 14, 15, 16, 17, 18, 19, 20, 21, 22, 23, 24, 25, 26, 27, 28, 29, 30, 31, 32, 33, 34, 35, 36, 37, 38, 39, 40, 41, 42, 43, 44, 49, 50, 51, 52, 53, 54, 55, 56, 57, 58, 59, 60, 61, 62, 63, 64, 65] (by decide +kernel) (by decide +kernel)
set_option maxRecDepth 20000 in
theorem gX9_placeOnWay_X9_walkFrom : GoodIn wsX9_placeOnWay (wsV RX9 38 RX9 yX9_walkFrom wsX9_walkFrom) := goodIn_app (goodIn_of _ (by decide +kernel)) ggX9_placeOnWay_X9_walkFrom
set_option maxRecDepth 20000 in
theorem ggX9_placeOnWay_X9_lowestNearer : GoodIn wsX9_placeOnWay wsX9_lowestNearer := goodIn_r _ [48, 1, 15, 16, 17, 18, 19, 20, 21, 22, 23, 24, 25, 26, 27, 28, 29, 30, 31, 32, 33, 34, 35, 36, 37, 38, 39, 40, 41, 42, 43, 44, 49, 50, 51, 52, 53, 54, 55, 56, 57, 58, 59, 60, 61, 62, 63, 64, 65] (by decide +kernel) (by decide +kernel)
set_option maxRecDepth 20000 in
theorem gX9_placeOnWay_X9_lowestNearer : GoodIn wsX9_placeOnWay (wsV RX9 41 RX9 yX9_lowestNearer wsX9_lowestNearer) := goodIn_app (goodIn_of _ (by decide +kernel)) ggX9_placeOnWay_X9_lowestNearer
theorem dX9_placeOnWay_0 : decode cX9_placeOnWay 0 = .ok (.aload_n 0, 1) := by decide +kernel
theorem dX9_placeOnWay_1 : decode cX9_placeOnWay 1 = .ok (.aload_n 1, 1) := by decide +kernel
theorem dX9_placeOnWay_2 : decode cX9_placeOnWay 2 = .ok (.iload_n 3, 1) := by decide +kernel
theorem dX9_placeOnWay_3 : decode cX9_placeOnWay 3 = .ok (.invokevirtual 38, 3) := by decide +kernel
theorem dX9_placeOnWay_6 : decode cX9_placeOnWay 6 = .ok (.iload 4, 2) := by decide +kernel
theorem dX9_placeOnWay_8 : decode cX9_placeOnWay 8 = .ok (.ifCond .lt 14, 3) := by decide +kernel
theorem dX9_placeOnWay_11 : decode cX9_placeOnWay 11 = .ok (.iload 4, 2) := by decide +kernel
theorem dX9_placeOnWay_13 : decode cX9_placeOnWay 13 = .ok (.aload_n 0, 1) := by decide +kernel
theorem dX9_placeOnWay_14 : decode cX9_placeOnWay 14 = .ok (.getfield 9, 3) := by decide +kernel
theorem dX9_placeOnWay_17 : decode cX9_placeOnWay 17 = .ok (.iload_n 2, 1) := by decide +kernel
theorem dX9_placeOnWay_18 : decode cX9_placeOnWay 18 = .ok (.iaload, 1) := by decide +kernel
theorem dX9_placeOnWay_19 : decode cX9_placeOnWay 19 = .ok (.if_icmp .le 6, 3) := by decide +kernel
theorem dX9_placeOnWay_22 : decode cX9_placeOnWay 22 = .ok (.bipush (-4), 2) := by decide +kernel
theorem dX9_placeOnWay_24 : decode cX9_placeOnWay 24 = .ok (.ireturn, 1) := by decide +kernel
theorem dX9_placeOnWay_25 : decode cX9_placeOnWay 25 = .ok (.iload_n 2, 1) := by decide +kernel
theorem dX9_placeOnWay_26 : decode cX9_placeOnWay 26 = .ok (.istore 5, 2) := by decide +kernel
theorem dX9_placeOnWay_28 : decode cX9_placeOnWay 28 = .ok (.iconst 0, 1) := by decide +kernel
theorem dX9_placeOnWay_29 : decode cX9_placeOnWay 29 = .ok (.istore 6, 2) := by decide +kernel
theorem dX9_placeOnWay_31 : decode cX9_placeOnWay 31 = .ok (.iload 6, 2) := by decide +kernel
theorem dX9_placeOnWay_33 : decode cX9_placeOnWay 33 = .ok (.iload 4, 2) := by decide +kernel
theorem dX9_placeOnWay_35 : decode cX9_placeOnWay 35 = .ok (.if_icmp .ge 25, 3) := by decide +kernel
theorem dX9_placeOnWay_38 : decode cX9_placeOnWay 38 = .ok (.iload 6, 2) := by decide +kernel
theorem dX9_placeOnWay_40 : decode cX9_placeOnWay 40 = .ok (.bipush 12, 2) := by decide +kernel
theorem dX9_placeOnWay_42 : decode cX9_placeOnWay 42 = .ok (.if_icmp .ge 18, 3) := by decide +kernel
theorem dX9_placeOnWay_45 : decode cX9_placeOnWay 45 = .ok (.aload_n 0, 1) := by decide +kernel
theorem dX9_placeOnWay_46 : decode cX9_placeOnWay 46 = .ok (.aload_n 1, 1) := by decide +kernel
theorem dX9_placeOnWay_47 : decode cX9_placeOnWay 47 = .ok (.iload 5, 2) := by decide +kernel
theorem dX9_placeOnWay_49 : decode cX9_placeOnWay 49 = .ok (.invokevirtual 41, 3) := by decide +kernel
theorem dX9_placeOnWay_52 : decode cX9_placeOnWay 52 = .ok (.istore 5, 2) := by decide +kernel
theorem dX9_placeOnWay_54 : decode cX9_placeOnWay 54 = .ok (.iinc 6 1, 3) := by decide +kernel
theorem dX9_placeOnWay_57 : decode cX9_placeOnWay 57 = .ok (.goto (-26), 3) := by decide +kernel
theorem dX9_placeOnWay_60 : decode cX9_placeOnWay 60 = .ok (.iload 5, 2) := by decide +kernel
theorem dX9_placeOnWay_62 : decode cX9_placeOnWay 62 = .ok (.ireturn, 1) := by decide +kernel
set_option maxRecDepth 20000 in
theorem ggX9_lowestNearer_X6_stepFrom : GoodIn wsX9_lowestNearer wsX6_stepFrom := goodIn_r _ [6, 7, 8, 5, 9, 10, 11, 12, 13, 14, 15, 16, 17, 18, 19, 20, 21, 22, 23, 24, 25, 26, 27, 28, 29, 30, 31, 34, 35, 36, 37, 38, 39, 40, 41, 42, 43, 44, 45, 46, 47, 48] (by decide +kernel) (by decide +kernel)
set_option maxRecDepth 20000 in
theorem gX9_lowestNearer_X6_stepFrom : GoodIn wsX9_lowestNearer (wsV RX9 28 RX6 yX6_stepFrom wsX6_stepFrom) := goodIn_app (goodIn_of _ (by decide +kernel)) ggX9_lowestNearer_X6_stepFrom
theorem dX9_lowestNearer_0 : decode cX9_lowestNearer 0 = .ok (.iconst 0, 1) := by decide +kernel
theorem dX9_lowestNearer_1 : decode cX9_lowestNearer 1 = .ok (.istore_n 3, 1) := by decide +kernel
theorem dX9_lowestNearer_2 : decode cX9_lowestNearer 2 = .ok (.iload_n 3, 1) := by decide +kernel
theorem dX9_lowestNearer_3 : decode cX9_lowestNearer 3 = .ok (.iconst 4, 1) := by decide +kernel
theorem dX9_lowestNearer_4 : decode cX9_lowestNearer 4 = .ok (.if_icmp .ge 43, 3) := by decide +kernel
theorem dX9_lowestNearer_7 : decode cX9_lowestNearer 7 = .ok (.aload_n 1, 1) := by decide +kernel
theorem dX9_lowestNearer_8 : decode cX9_lowestNearer 8 = .ok (.iload_n 2, 1) := by decide +kernel
theorem dX9_lowestNearer_9 : decode cX9_lowestNearer 9 = .ok (.iload_n 3, 1) := by decide +kernel
theorem dX9_lowestNearer_10 : decode cX9_lowestNearer 10 = .ok (.invokevirtual 28, 3) := by decide +kernel
theorem dX9_lowestNearer_13 : decode cX9_lowestNearer 13 = .ok (.istore 4, 2) := by decide +kernel
theorem dX9_lowestNearer_15 : decode cX9_lowestNearer 15 = .ok (.iload 4, 2) := by decide +kernel
theorem dX9_lowestNearer_17 : decode cX9_lowestNearer 17 = .ok (.ifCond .lt 24, 3) := by decide +kernel
theorem dX9_lowestNearer_20 : decode cX9_lowestNearer 20 = .ok (.aload_n 0, 1) := by decide +kernel
theorem dX9_lowestNearer_21 : decode cX9_lowestNearer 21 = .ok (.getfield 9, 3) := by decide +kernel
theorem dX9_lowestNearer_24 : decode cX9_lowestNearer 24 = .ok (.iload 4, 2) := by decide +kernel
theorem dX9_lowestNearer_26 : decode cX9_lowestNearer 26 = .ok (.iaload, 1) := by decide +kernel
theorem dX9_lowestNearer_27 : decode cX9_lowestNearer 27 = .ok (.aload_n 0, 1) := by decide +kernel
theorem dX9_lowestNearer_28 : decode cX9_lowestNearer 28 = .ok (.getfield 9, 3) := by decide +kernel
theorem dX9_lowestNearer_31 : decode cX9_lowestNearer 31 = .ok (.iload_n 2, 1) := by decide +kernel
theorem dX9_lowestNearer_32 : decode cX9_lowestNearer 32 = .ok (.iaload, 1) := by decide +kernel
theorem dX9_lowestNearer_33 : decode cX9_lowestNearer 33 = .ok (.iconst 1, 1) := by decide +kernel
theorem dX9_lowestNearer_34 : decode cX9_lowestNearer 34 = .ok (.isub, 1) := by decide +kernel
theorem dX9_lowestNearer_35 : decode cX9_lowestNearer 35 = .ok (.if_icmp .ne 6, 3) := by decide +kernel
theorem dX9_lowestNearer_38 : decode cX9_lowestNearer 38 = .ok (.iload 4, 2) := by decide +kernel
theorem dX9_lowestNearer_40 : decode cX9_lowestNearer 40 = .ok (.ireturn, 1) := by decide +kernel
theorem dX9_lowestNearer_41 : decode cX9_lowestNearer 41 = .ok (.iinc 3 1, 3) := by decide +kernel
theorem dX9_lowestNearer_44 : decode cX9_lowestNearer 44 = .ok (.goto (-42), 3) := by decide +kernel
theorem dX9_lowestNearer_47 : decode cX9_lowestNearer 47 = .ok (.iload_n 2, 1) := by decide +kernel
theorem dX9_lowestNearer_48 : decode cX9_lowestNearer 48 = .ok (.ireturn, 1) := by decide +kernel
theorem dX10_init_0 : decode cX10_init 0 = .ok (.aload_n 0, 1) := by decide +kernel
theorem dX10_init_1 : decode cX10_init 1 = .ok (.invokespecial 3, 3) := by decide +kernel
theorem dX10_init_4 : decode cX10_init 4 = .ok (.aload_n 0, 1) := by decide +kernel
theorem dX10_init_5 : decode cX10_init 5 = .ok (.bipush 60, 2) := by decide +kernel
theorem dX10_init_7 : decode cX10_init 7 = .ok (.newarray .char, 2) := by decide +kernel
theorem dX10_init_9 : decode cX10_init 9 = .ok (.putfield 9, 3) := by decide +kernel
theorem dX10_init_12 : decode cX10_init 12 = .ok (.aload_n 0, 1) := by decide +kernel
theorem dX10_init_13 : decode cX10_init 13 = .ok (.bipush 20, 2) := by decide +kernel
theorem dX10_init_15 : decode cX10_init 15 = .ok (.newarray .int, 2) := by decide +kernel
theorem dX10_init_17 : decode cX10_init 17 = .ok (.putfield 15, 3) := by decide +kernel
theorem dX10_init_20 : decode cX10_init 20 = .ok (.aload_n 0, 1) := by decide +kernel
theorem dX10_init_21 : decode cX10_init 21 = .ok (.bipush 20, 2) := by decide +kernel
theorem dX10_init_23 : decode cX10_init 23 = .ok (.newarray .int, 2) := by decide +kernel
theorem dX10_init_25 : decode cX10_init 25 = .ok (.putfield 19, 3) := by decide +kernel
theorem dX10_init_28 : decode cX10_init 28 = .ok (.aload_n 0, 1) := by decide +kernel
theorem dX10_init_29 : decode cX10_init 29 = .ok (.bipush 20, 2) := by decide +kernel
theorem dX10_init_31 : decode cX10_init 31 = .ok (.newarray .int, 2) := by decide +kernel
theorem dX10_init_33 : decode cX10_init 33 = .ok (.putfield 22, 3) := by decide +kernel
theorem dX10_init_36 : decode cX10_init 36 = .ok (.aload_n 0, 1) := by decide +kernel
theorem dX10_init_37 : decode cX10_init 37 = .ok (.bipush 20, 2) := by decide +kernel
theorem dX10_init_39 : decode cX10_init 39 = .ok (.newarray .int, 2) := by decide +kernel
theorem dX10_init_41 : decode cX10_init 41 = .ok (.putfield 25, 3) := by decide +kernel
theorem dX10_init_44 : decode cX10_init 44 = .ok (.return_, 1) := by decide +kernel
theorem dX10_addCharacter_0 : decode cX10_addCharacter 0 = .ok (.iload_n 1, 1) := by decide +kernel
theorem dX10_addCharacter_1 : decode cX10_addCharacter 1 = .ok (.bipush 32, 2) := by decide +kernel
theorem dX10_addCharacter_3 : decode cX10_addCharacter 3 = .ok (.if_icmp .lt 18, 3) := by decide +kernel
theorem dX10_addCharacter_6 : decode cX10_addCharacter 6 = .ok (.iload_n 1, 1) := by decide +kernel
theorem dX10_addCharacter_7 : decode cX10_addCharacter 7 = .ok (.bipush 126, 2) := by decide +kernel
theorem dX10_addCharacter_9 : decode cX10_addCharacter 9 = .ok (.if_icmp .gt 12, 3) := by decide +kernel
theorem dX10_addCharacter_12 : decode cX10_addCharacter 12 = .ok (.aload_n 0, 1) := by decide +kernel
theorem dX10_addCharacter_13 : decode cX10_addCharacter 13 = .ok (.getfield 28, 3) := by decide +kernel
theorem dX10_addCharacter_16 : decode cX10_addCharacter 16 = .ok (.bipush 60, 2) := by decide +kernel
theorem dX10_addCharacter_18 : decode cX10_addCharacter 18 = .ok (.if_icmp .lt 6, 3) := by decide +kernel
theorem dX10_addCharacter_21 : decode cX10_addCharacter 21 = .ok (.bipush (-2), 2) := by decide +kernel
theorem dX10_addCharacter_23 : decode cX10_addCharacter 23 = .ok (.ireturn, 1) := by decide +kernel
theorem dX10_addCharacter_24 : decode cX10_addCharacter 24 = .ok (.aload_n 0, 1) := by decide +kernel
theorem dX10_addCharacter_25 : decode cX10_addCharacter 25 = .ok (.getfield 9, 3) := by decide +kernel
theorem dX10_addCharacter_28 : decode cX10_addCharacter 28 = .ok (.aload_n 0, 1) := by decide +kernel
theorem dX10_addCharacter_29 : decode cX10_addCharacter 29 = .ok (.getfield 28, 3) := by decide +kernel
theorem dX10_addCharacter_32 : decode cX10_addCharacter 32 = .ok (.iload_n 1, 1) := by decide +kernel
theorem dX10_addCharacter_33 : decode cX10_addCharacter 33 = .ok (.castore, 1) := by decide +kernel
theorem dX10_addCharacter_34 : decode cX10_addCharacter 34 = .ok (.aload_n 0, 1) := by decide +kernel
theorem dX10_addCharacter_35 : decode cX10_addCharacter 35 = .ok (.dup, 1) := by decide +kernel
theorem dX10_addCharacter_36 : decode cX10_addCharacter 36 = .ok (.getfield 28, 3) := by decide +kernel
theorem dX10_addCharacter_39 : decode cX10_addCharacter 39 = .ok (.iconst 1, 1) := by decide +kernel
theorem dX10_addCharacter_40 : decode cX10_addCharacter 40 = .ok (.iadd, 1) := by decide +kernel
theorem dX10_addCharacter_41 : decode cX10_addCharacter 41 = .ok (.putfield 28, 3) := by decide +kernel
theorem dX10_addCharacter_44 : decode cX10_addCharacter 44 = .ok (.aload_n 0, 1) := by decide +kernel
theorem dX10_addCharacter_45 : decode cX10_addCharacter 45 = .ok (.getfield 28, 3) := by decide +kernel
theorem dX10_addCharacter_48 : decode cX10_addCharacter 48 = .ok (.ireturn, 1) := by decide +kernel
theorem dX10_emptyInput_0 : decode cX10_emptyInput 0 = .ok (.aload_n 0, 1) := by decide +kernel
theorem dX10_emptyInput_1 : decode cX10_emptyInput 1 = .ok (.iconst 0, 1) := by decide +kernel
theorem dX10_emptyInput_2 : decode cX10_emptyInput 2 = .ok (.putfield 28, 3) := by decide +kernel
theorem dX10_emptyInput_5 : decode cX10_emptyInput 5 = .ok (.return_, 1) := by decide +kernel
set_option maxRecDepth 20000 in
theorem ggX10_understandText_X10_readCommand : GoodIn wsX10_understandText wsX10_readCommand := goodIn_r _ [8, 9, 10, 11, 12, 13, 14, 15, 16, 17, 7, 18, 19, 20, 21, 22, 23, 1, 24, 25, 26, 27, 3, 28, 29, 30, 31, 32, 33, 34, 35, 36, 37, 38, 39, 40, 41, 42, 43, 44, 45, 46, 47, 48, 49, 50, 51, 52, 53, 54, 55, 56, 57, 58, 59, 60, 61, 62, 63, 64, 65, 66, 67, 68, 69, 70, 71, 72, 73, 74, 75, 76, 77, 78, 79, 80, 81, 82, 83, 84, 85, 86, 87, 88, 89, 90, 91, 92, 93, 94, 95, 96, 97] (by decide +kernel) (by decide +kernel)
set_option maxRecDepth 20000 in
theorem gX10_understandText_X10_readCommand : GoodIn wsX10_understandText (wsV RX10 38 RX10 yX10_readCommand wsX10_readCommand) := goodIn_app (goodIn_of _ (by decide +kernel)) ggX10_understandText_X10_readCommand
set_option maxRecDepth 20000 in
theorem ggX10_understandText_X10_passOver : GoodIn wsX10_understandText wsX10_passOver := goodIn_r _ [89, 1, 3, 28, 90, 91, 92, 93, 94, 95, 96, 97] (by decide +kernel) (by decide +kernel)
set_option maxRecDepth 20000 in
theorem gX10_understandText_X10_passOver : GoodIn wsX10_understandText (wsV RX10 42 RX10 yX10_passOver wsX10_passOver) := goodIn_app (goodIn_of _ (by decide +kernel)) ggX10_understandText_X10_passOver
theorem dX10_understandText_0 : decode cX10_understandText 0 = .ok (.aload_n 0, 1) := by decide +kernel
theorem dX10_understandText_1 : decode cX10_understandText 1 = .ok (.iconst 0, 1) := by decide +kernel
theorem dX10_understandText_2 : decode cX10_understandText 2 = .ok (.putfield 32, 3) := by decide +kernel
theorem dX10_understandText_5 : decode cX10_understandText 5 = .ok (.aload_n 0, 1) := by decide +kernel
theorem dX10_understandText_6 : decode cX10_understandText 6 = .ok (.iconst 0, 1) := by decide +kernel
theorem dX10_understandText_7 : decode cX10_understandText 7 = .ok (.putfield 35, 3) := by decide +kernel
theorem dX10_understandText_10 : decode cX10_understandText 10 = .ok (.iconst 0, 1) := by decide +kernel
theorem dX10_understandText_11 : decode cX10_understandText 11 = .ok (.istore_n 1, 1) := by decide +kernel
theorem dX10_understandText_12 : decode cX10_understandText 12 = .ok (.iload_n 1, 1) := by decide +kernel
theorem dX10_understandText_13 : decode cX10_understandText 13 = .ok (.bipush 20, 2) := by decide +kernel
theorem dX10_understandText_15 : decode cX10_understandText 15 = .ok (.if_icmp .ge 53, 3) := by decide +kernel
theorem dX10_understandText_18 : decode cX10_understandText 18 = .ok (.aload_n 0, 1) := by decide +kernel
theorem dX10_understandText_19 : decode cX10_understandText 19 = .ok (.iload_n 1, 1) := by decide +kernel
theorem dX10_understandText_20 : decode cX10_understandText 20 = .ok (.invokevirtual 38, 3) := by decide +kernel
theorem dX10_understandText_23 : decode cX10_understandText 23 = .ok (.ifCond .ne 5, 3) := by decide +kernel
theorem dX10_understandText_26 : decode cX10_understandText 26 = .ok (.iconst 0, 1) := by decide +kernel
theorem dX10_understandText_27 : decode cX10_understandText 27 = .ok (.ireturn, 1) := by decide +kernel
theorem dX10_understandText_28 : decode cX10_understandText 28 = .ok (.aload_n 0, 1) := by decide +kernel
theorem dX10_understandText_29 : decode cX10_understandText 29 = .ok (.dup, 1) := by decide +kernel
theorem dX10_understandText_30 : decode cX10_understandText 30 = .ok (.getfield 35, 3) := by decide +kernel
theorem dX10_understandText_33 : decode cX10_understandText 33 = .ok (.iconst 1, 1) := by decide +kernel
theorem dX10_understandText_34 : decode cX10_understandText 34 = .ok (.iadd, 1) := by decide +kernel
theorem dX10_understandText_35 : decode cX10_understandText 35 = .ok (.putfield 35, 3) := by decide +kernel
theorem dX10_understandText_38 : decode cX10_understandText 38 = .ok (.aload_n 0, 1) := by decide +kernel
theorem dX10_understandText_39 : decode cX10_understandText 39 = .ok (.getfield 32, 3) := by decide +kernel
theorem dX10_understandText_42 : decode cX10_understandText 42 = .ok (.aload_n 0, 1) := by decide +kernel
theorem dX10_understandText_43 : decode cX10_understandText 43 = .ok (.getfield 28, 3) := by decide +kernel
theorem dX10_understandText_46 : decode cX10_understandText 46 = .ok (.if_icmp .ne 5, 3) := by decide +kernel
theorem dX10_understandText_49 : decode cX10_understandText 49 = .ok (.iconst 1, 1) := by decide +kernel
theorem dX10_understandText_50 : decode cX10_understandText 50 = .ok (.ireturn, 1) := by decide +kernel
theorem dX10_understandText_51 : decode cX10_understandText 51 = .ok (.aload_n 0, 1) := by decide +kernel
theorem dX10_understandText_52 : decode cX10_understandText 52 = .ok (.bipush 59, 2) := by decide +kernel
theorem dX10_understandText_54 : decode cX10_understandText 54 = .ok (.invokevirtual 42, 3) := by decide +kernel
theorem dX10_understandText_57 : decode cX10_understandText 57 = .ok (.ifCond .ne 5, 3) := by decide +kernel
theorem dX10_understandText_60 : decode cX10_understandText 60 = .ok (.iconst 0, 1) := by decide +kernel
theorem dX10_understandText_61 : decode cX10_understandText 61 = .ok (.ireturn, 1) := by decide +kernel
theorem dX10_understandText_62 : decode cX10_understandText 62 = .ok (.iinc 1 1, 3) := by decide +kernel
theorem dX10_understandText_65 : decode cX10_understandText 65 = .ok (.goto (-53), 3) := by decide +kernel
theorem dX10_understandText_68 : decode cX10_understandText 68 = .ok (.iconst 0, 1) := by decide +kernel
theorem dX10_understandText_69 : decode cX10_understandText 69 = .ok (.ireturn, 1) := by decide +kernel
set_option maxRecDepth 20000 in
theorem ggX10_readCommand_X10_readWord : GoodIn wsX10_readCommand wsX10_readWord := goodIn_r _ [11, 12, 13, 14, 15, 16, 17, 18, 19, 20, 10, 21, 22, 23, 24, 25, 26, 27, 28, 29, 30, 31, 32, 33, 34, 35, 36, 37, 38, 39, 40, 41, 42, 43, 44, 45, 46, 47, 48, 49, 50, 51, 52, 53, 54, 55, 56, 57, 58, 59, 60, 61, 62, 63, 64, 65, 66, 67, 68, 69, 70, 71, 72, 85, 86, 87, 88, 89, 90, 91, 92] (by decide +kernel) (by decide +kernel)
set_option maxRecDepth 20000 in
theorem gX10_readCommand_X10_readWord : GoodIn wsX10_readCommand (wsV RX10 46 RX10 yX10_readWord wsX10_readWord) := goodIn_app (goodIn_of _ (by decide +kernel)) ggX10_readCommand_X10_readWord
set_option maxRecDepth 20000 in
theorem ggX10_readCommand_X10_readNumber : GoodIn wsX10_readCommand wsX10_readNumber := goodIn_r _ [76, 77, 78, 79, 10, 80, 17, 22, 23, 85, 86, 87, 88, 89, 90, 91, 92] (by decide +kernel) (by decide +kernel)
set_option maxRecDepth 20000 in
theorem gX10_readCommand_X10_readNumber : GoodIn wsX10_readCommand (wsV RX10 59 RX10 yX10_readNumber wsX10_readNumber) := goodIn_app (goodIn_of _ (by decide +kernel)) ggX10_readCommand_X10_readNumber
set_option maxRecDepth 20000 in
theorem ggX10_readCommand_X10_passOver : GoodIn wsX10_readCommand wsX10_passOver := goodIn_r _ [84, 17, 22, 23, 85, 86, 87, 88, 89, 90, 91, 92] (by decide +kernel) (by decide +kernel)
set_option maxRecDepth 20000 in
theorem gX10_readCommand_X10_passOver : GoodIn wsX10_readCommand (wsV RX10 42 RX10 yX10_passOver wsX10_passOver) := goodIn_app (goodIn_of _ (by decide +kernel)) ggX10_readCommand_X10_passOver
set_option maxRecDepth 20000 in
theorem ggX10_readCommand_X10_readDigit : GoodIn wsX10_readCommand wsX10_readDigit := goodIn_r _ [80, 17, 22, 23, 85, 86, 87, 88, 89, 90, 91, 92] (by decide +kernel) (by decide +kernel)
set_option maxRecDepth 20000 in
theorem gX10_readCommand_X10_readDigit : GoodIn wsX10_readCommand (wsV RX10 66 RX10 yX10_readDigit wsX10_readDigit) := goodIn_app (goodIn_of _ (by decide +kernel)) ggX10_readCommand_X10_readDigit
theorem dX10_readCommand_0 : decode cX10_readCommand 0 = .ok (.aload_n 0, 1) := by decide +kernel
theorem dX10_readCommand_1 : decode cX10_readCommand 1 = .ok (.invokevirtual 46, 3) := by decide +kernel
theorem dX10_readCommand_4 : decode cX10_readCommand 4 = .ok (.istore_n 2, 1) := by decide +kernel
theorem dX10_readCommand_5 : decode cX10_readCommand 5 = .ok (.iload_n 2, 1) := by decide +kernel
theorem dX10_readCommand_6 : decode cX10_readCommand 6 = .ok (.ifCond .ge 5, 3) := by decide +kernel
theorem dX10_readCommand_9 : decode cX10_readCommand 9 = .ok (.iconst 0, 1) := by decide +kernel
theorem dX10_readCommand_10 : decode cX10_readCommand 10 = .ok (.ireturn, 1) := by decide +kernel
theorem dX10_readCommand_11 : decode cX10_readCommand 11 = .ok (.aload_n 0, 1) := by decide +kernel
theorem dX10_readCommand_12 : decode cX10_readCommand 12 = .ok (.getfield 15, 3) := by decide +kernel
theorem dX10_readCommand_15 : decode cX10_readCommand 15 = .ok (.iload_n 1, 1) := by decide +kernel
theorem dX10_readCommand_16 : decode cX10_readCommand 16 = .ok (.iload_n 2, 1) := by decide +kernel
theorem dX10_readCommand_17 : decode cX10_readCommand 17 = .ok (.iastore, 1) := by decide +kernel
theorem dX10_readCommand_18 : decode cX10_readCommand 18 = .ok (.getstatic 50, 3) := by decide +kernel
theorem dX10_readCommand_21 : decode cX10_readCommand 21 = .ok (.iload_n 2, 1) := by decide +kernel
theorem dX10_readCommand_22 : decode cX10_readCommand 22 = .ok (.aaload, 1) := by decide +kernel
theorem dX10_readCommand_23 : decode cX10_readCommand 23 = .ok (.astore_n 3, 1) := by decide +kernel
theorem dX10_readCommand_24 : decode cX10_readCommand 24 = .ok (.aload_n 3, 1) := by decide +kernel
theorem dX10_readCommand_25 : decode cX10_readCommand 25 = .ok (.getfield 54, 3) := by decide +kernel
theorem dX10_readCommand_28 : decode cX10_readCommand 28 = .ok (.ifCond .le 24, 3) := by decide +kernel
theorem dX10_readCommand_31 : decode cX10_readCommand 31 = .ok (.aload_n 0, 1) := by decide +kernel
theorem dX10_readCommand_32 : decode cX10_readCommand 32 = .ok (.getfield 19, 3) := by decide +kernel
theorem dX10_readCommand_35 : decode cX10_readCommand 35 = .ok (.iload_n 1, 1) := by decide +kernel
theorem dX10_readCommand_36 : decode cX10_readCommand 36 = .ok (.aload_n 0, 1) := by decide +kernel
theorem dX10_readCommand_37 : decode cX10_readCommand 37 = .ok (.invokevirtual 59, 3) := by decide +kernel
theorem dX10_readCommand_40 : decode cX10_readCommand 40 = .ok (.iastore, 1) := by decide +kernel
theorem dX10_readCommand_41 : decode cX10_readCommand 41 = .ok (.aload_n 0, 1) := by decide +kernel
theorem dX10_readCommand_42 : decode cX10_readCommand 42 = .ok (.getfield 19, 3) := by decide +kernel
theorem dX10_readCommand_45 : decode cX10_readCommand 45 = .ok (.iload_n 1, 1) := by decide +kernel
theorem dX10_readCommand_46 : decode cX10_readCommand 46 = .ok (.iaload, 1) := by decide +kernel
theorem dX10_readCommand_47 : decode cX10_readCommand 47 = .ok (.ifCond .ge 5, 3) := by decide +kernel
theorem dX10_readCommand_50 : decode cX10_readCommand 50 = .ok (.iconst 0, 1) := by decide +kernel
theorem dX10_readCommand_51 : decode cX10_readCommand 51 = .ok (.ireturn, 1) := by decide +kernel
theorem dX10_readCommand_52 : decode cX10_readCommand 52 = .ok (.aload_n 3, 1) := by decide +kernel
theorem dX10_readCommand_53 : decode cX10_readCommand 53 = .ok (.getfield 54, 3) := by decide +kernel
theorem dX10_readCommand_56 : decode cX10_readCommand 56 = .ok (.iconst 1, 1) := by decide +kernel
theorem dX10_readCommand_57 : decode cX10_readCommand 57 = .ok (.if_icmp .le 37, 3) := by decide +kernel
theorem dX10_readCommand_60 : decode cX10_readCommand 60 = .ok (.aload_n 0, 1) := by decide +kernel
theorem dX10_readCommand_61 : decode cX10_readCommand 61 = .ok (.getfield 22, 3) := by decide +kernel
theorem dX10_readCommand_64 : decode cX10_readCommand 64 = .ok (.iload_n 1, 1) := by decide +kernel
theorem dX10_readCommand_65 : decode cX10_readCommand 65 = .ok (.aload_n 0, 1) := by decide +kernel
theorem dX10_readCommand_66 : decode cX10_readCommand 66 = .ok (.bipush 32, 2) := by decide +kernel
theorem dX10_readCommand_68 : decode cX10_readCommand 68 = .ok (.invokevirtual 42, 3) := by decide +kernel
theorem dX10_readCommand_71 : decode cX10_readCommand 71 = .ok (.ifCond .eq 10, 3) := by decide +kernel
theorem dX10_readCommand_74 : decode cX10_readCommand 74 = .ok (.aload_n 0, 1) := by decide +kernel
theorem dX10_readCommand_75 : decode cX10_readCommand 75 = .ok (.invokevirtual 59, 3) := by decide +kernel
theorem dX10_readCommand_78 : decode cX10_readCommand 78 = .ok (.goto 4, 3) := by decide +kernel
theorem dX10_readCommand_81 : decode cX10_readCommand 81 = .ok (.iconst (-1), 1) := by decide +kernel
theorem dX10_readCommand_82 : decode cX10_readCommand 82 = .ok (.iastore, 1) := by decide +kernel
theorem dX10_readCommand_83 : decode cX10_readCommand 83 = .ok (.aload_n 0, 1) := by decide +kernel
theorem dX10_readCommand_84 : decode cX10_readCommand 84 = .ok (.getfield 22, 3) := by decide +kernel
theorem dX10_readCommand_87 : decode cX10_readCommand 87 = .ok (.iload_n 1, 1) := by decide +kernel
theorem dX10_readCommand_88 : decode cX10_readCommand 88 = .ok (.iaload, 1) := by decide +kernel
theorem dX10_readCommand_89 : decode cX10_readCommand 89 = .ok (.ifCond .ge 5, 3) := by decide +kernel
theorem dX10_readCommand_92 : decode cX10_readCommand 92 = .ok (.iconst 0, 1) := by decide +kernel
theorem dX10_readCommand_93 : decode cX10_readCommand 93 = .ok (.ireturn, 1) := by decide +kernel
theorem dX10_readCommand_94 : decode cX10_readCommand 94 = .ok (.aload_n 3, 1) := by decide +kernel
theorem dX10_readCommand_95 : decode cX10_readCommand 95 = .ok (.getfield 62, 3) := by decide +kernel
theorem dX10_readCommand_98 : decode cX10_readCommand 98 = .ok (.ifCond .eq 41, 3) := by decide +kernel
theorem dX10_readCommand_101 : decode cX10_readCommand 101 = .ok (.aload_n 0, 1) := by decide +kernel
theorem dX10_readCommand_102 : decode cX10_readCommand 102 = .ok (.getfield 25, 3) := by decide +kernel
theorem dX10_readCommand_105 : decode cX10_readCommand 105 = .ok (.iload_n 1, 1) := by decide +kernel
theorem dX10_readCommand_106 : decode cX10_readCommand 106 = .ok (.aload_n 0, 1) := by decide +kernel
theorem dX10_readCommand_107 : decode cX10_readCommand 107 = .ok (.bipush 32, 2) := by decide +kernel
theorem dX10_readCommand_109 : decode cX10_readCommand 109 = .ok (.invokevirtual 42, 3) := by decide +kernel
theorem dX10_readCommand_112 : decode cX10_readCommand 112 = .ok (.ifCond .eq 10, 3) := by decide +kernel
theorem dX10_readCommand_115 : decode cX10_readCommand 115 = .ok (.aload_n 0, 1) := by decide +kernel
theorem dX10_readCommand_116 : decode cX10_readCommand 116 = .ok (.invokevirtual 66, 3) := by decide +kernel
theorem dX10_readCommand_119 : decode cX10_readCommand 119 = .ok (.goto 4, 3) := by decide +kernel
theorem dX10_readCommand_122 : decode cX10_readCommand 122 = .ok (.iconst (-1), 1) := by decide +kernel
theorem dX10_readCommand_123 : decode cX10_readCommand 123 = .ok (.iastore, 1) := by decide +kernel
theorem dX10_readCommand_124 : decode cX10_readCommand 124 = .ok (.aload_n 0, 1) := by decide +kernel
theorem dX10_readCommand_125 : decode cX10_readCommand 125 = .ok (.getfield 25, 3) := by decide +kernel
theorem dX10_readCommand_128 : decode cX10_readCommand 128 = .ok (.iload_n 1, 1) := by decide +kernel
theorem dX10_readCommand_129 : decode cX10_readCommand 129 = .ok (.iaload, 1) := by decide +kernel
theorem dX10_readCommand_130 : decode cX10_readCommand 130 = .ok (.ifCond .lt 7, 3) := by decide +kernel
theorem dX10_readCommand_133 : decode cX10_readCommand 133 = .ok (.iconst 1, 1) := by decide +kernel
theorem dX10_readCommand_134 : decode cX10_readCommand 134 = .ok (.goto 4, 3) := by decide +kernel
theorem dX10_readCommand_137 : decode cX10_readCommand 137 = .ok (.iconst 0, 1) := by decide +kernel
theorem dX10_readCommand_138 : decode cX10_readCommand 138 = .ok (.ireturn, 1) := by decide +kernel
theorem dX10_readCommand_139 : decode cX10_readCommand 139 = .ok (.iconst 1, 1) := by decide +kernel
theorem dX10_readCommand_140 : decode cX10_readCommand 140 = .ok (.ireturn, 1) := by decide +kernel
set_option maxRecDepth 20000 in
theorem ggX10_readWord_X10_countAlike : GoodIn wsX10_readWord wsX10_countAlike := goodIn_r _ [11, 6, 12, 13, 14, 15, 16, 17, 18, 19, 20, 21, 22, 23, 24, 25, 26, 27, 28, 29, 30, 31, 32, 33, 34, 35, 36, 37, 38, 39, 40, 41, 42, 43, 44, 45, 46, 47, 48, 49, 50, 51, 52, 53, 54, 55, 56, 57, 58, 59, 60, 61, 62, 63, 64, 65, 66, 67, 68, 69, 70] (by decide +kernel) (by decide +kernel)
set_option maxRecDepth 20000 in
theorem gX10_readWord_X10_countAlike : GoodIn wsX10_readWord (wsV RX10 73 RX10 yX10_countAlike wsX10_countAlike) := goodIn_app (goodIn_of _ (by decide +kernel)) ggX10_readWord_X10_countAlike
set_option maxRecDepth 20000 in
theorem ggX10_readWord_J0_length_8abf5 : GoodIn wsX10_readWord wsJ0_length_8abf5 := goodIn_r _ [18, 19, 20, 21, 22, 17, 23, 24, 25] (by decide +kernel) (by decide +kernel)
set_option maxRecDepth 20000 in
theorem gX10_readWord_J0_length_8abf5 : GoodIn wsX10_readWord (wsV RX10 83 RJ0 yJ0_length_8abf5 wsJ0_length_8abf5) := goodIn_app (goodIn_of _ (by decide +kernel)) ggX10_readWord_J0_length_8abf5
theorem dX10_readWord_0 : decode cX10_readWord 0 = .ok (.iconst 0, 1) := by decide +kernel
theorem dX10_readWord_1 : decode cX10_readWord 1 = .ok (.istore_n 1, 1) := by decide +kernel
theorem dX10_readWord_2 : decode cX10_readWord 2 = .ok (.iconst (-1), 1) := by decide +kernel
theorem dX10_readWord_3 : decode cX10_readWord 3 = .ok (.istore_n 2, 1) := by decide +kernel
theorem dX10_readWord_4 : decode cX10_readWord 4 = .ok (.iconst 0, 1) := by decide +kernel
theorem dX10_readWord_5 : decode cX10_readWord 5 = .ok (.istore_n 3, 1) := by decide +kernel
theorem dX10_readWord_6 : decode cX10_readWord 6 = .ok (.iload_n 3, 1) := by decide +kernel
theorem dX10_readWord_7 : decode cX10_readWord 7 = .ok (.getstatic 50, 3) := by decide +kernel
theorem dX10_readWord_10 : decode cX10_readWord 10 = .ok (.arraylength, 1) := by decide +kernel
theorem dX10_readWord_11 : decode cX10_readWord 11 = .ok (.if_icmp .ge 46, 3) := by decide +kernel
theorem dX10_readWord_14 : decode cX10_readWord 14 = .ok (.getstatic 50, 3) := by decide +kernel
theorem dX10_readWord_17 : decode cX10_readWord 17 = .ok (.iload_n 3, 1) := by decide +kernel
theorem dX10_readWord_18 : decode cX10_readWord 18 = .ok (.aaload, 1) := by decide +kernel
theorem dX10_readWord_19 : decode cX10_readWord 19 = .ok (.getfield 69, 3) := by decide +kernel
theorem dX10_readWord_22 : decode cX10_readWord 22 = .ok (.astore 4, 2) := by decide +kernel
theorem dX10_readWord_24 : decode cX10_readWord 24 = .ok (.aload_n 0, 1) := by decide +kernel
theorem dX10_readWord_25 : decode cX10_readWord 25 = .ok (.aload 4, 2) := by decide +kernel
theorem dX10_readWord_27 : decode cX10_readWord 27 = .ok (.invokevirtual 73, 3) := by decide +kernel
theorem dX10_readWord_30 : decode cX10_readWord 30 = .ok (.istore 5, 2) := by decide +kernel
theorem dX10_readWord_32 : decode cX10_readWord 32 = .ok (.iload_n 1, 1) := by decide +kernel
theorem dX10_readWord_33 : decode cX10_readWord 33 = .ok (.iload 5, 2) := by decide +kernel
theorem dX10_readWord_35 : decode cX10_readWord 35 = .ok (.invokestatic 77, 3) := by decide +kernel
theorem dX10_readWord_38 : decode cX10_readWord 38 = .ok (.istore_n 1, 1) := by decide +kernel
theorem dX10_readWord_39 : decode cX10_readWord 39 = .ok (.iload 5, 2) := by decide +kernel
theorem dX10_readWord_41 : decode cX10_readWord 41 = .ok (.aload 4, 2) := by decide +kernel
theorem dX10_readWord_43 : decode cX10_readWord 43 = .ok (.invokevirtual 83, 3) := by decide +kernel
theorem dX10_readWord_46 : decode cX10_readWord 46 = .ok (.if_icmp .ne 5, 3) := by decide +kernel
theorem dX10_readWord_49 : decode cX10_readWord 49 = .ok (.iload_n 3, 1) := by decide +kernel
theorem dX10_readWord_50 : decode cX10_readWord 50 = .ok (.istore_n 2, 1) := by decide +kernel
theorem dX10_readWord_51 : decode cX10_readWord 51 = .ok (.iinc 3 1, 3) := by decide +kernel
theorem dX10_readWord_54 : decode cX10_readWord 54 = .ok (.goto (-48), 3) := by decide +kernel
theorem dX10_readWord_57 : decode cX10_readWord 57 = .ok (.aload_n 0, 1) := by decide +kernel
theorem dX10_readWord_58 : decode cX10_readWord 58 = .ok (.dup, 1) := by decide +kernel
theorem dX10_readWord_59 : decode cX10_readWord 59 = .ok (.getfield 32, 3) := by decide +kernel
theorem dX10_readWord_62 : decode cX10_readWord 62 = .ok (.iload_n 1, 1) := by decide +kernel
theorem dX10_readWord_63 : decode cX10_readWord 63 = .ok (.iadd, 1) := by decide +kernel
theorem dX10_readWord_64 : decode cX10_readWord 64 = .ok (.putfield 32, 3) := by decide +kernel
theorem dX10_readWord_67 : decode cX10_readWord 67 = .ok (.iload_n 2, 1) := by decide +kernel
theorem dX10_readWord_68 : decode cX10_readWord 68 = .ok (.ireturn, 1) := by decide +kernel
set_option maxRecDepth 20000 in
theorem ggX10_countAlike_J0_length_8abf5 : GoodIn wsX10_countAlike wsJ0_length_8abf5 := goodIn_r _ [8, 9, 10, 11, 12, 7, 13, 14, 15] (by decide +kernel) (by decide +kernel)
set_option maxRecDepth 20000 in
theorem gX10_countAlike_J0_length_8abf5 : GoodIn wsX10_countAlike (wsV RX10 83 RJ0 yJ0_length_8abf5 wsJ0_length_8abf5) := goodIn_app (goodIn_of _ (by decide +kernel)) ggX10_countAlike_J0_length_8abf5
set_option maxRecDepth 20000 in
theorem ggX10_countAlike_J0_charAt_5068e : GoodIn wsX10_countAlike wsJ0_charAt_5068e := goodIn_r _ [19, 9, 20, 21, 22, 7, 23, 14, 15, 24, 25, 26, 27, 28, 29, 30, 31, 32, 33, 34, 35, 36, 37, 38, 39, 40, 41, 42, 43, 44, 45, 46, 47, 48, 49, 50, 51, 52] (by decide +kernel) (by decide +kernel)
set_option maxRecDepth 20000 in
theorem gX10_countAlike_J0_charAt_5068e : GoodIn wsX10_countAlike (wsV RX10 87 RJ0 yJ0_charAt_5068e wsJ0_charAt_5068e) := goodIn_app (goodIn_of _ (by decide +kernel)) ggX10_countAlike_J0_charAt_5068e
theorem dX10_countAlike_0 : decode cX10_countAlike 0 = .ok (.iconst 0, 1) := by decide +kernel
theorem dX10_countAlike_1 : decode cX10_countAlike 1 = .ok (.istore_n 2, 1) := by decide +kernel
theorem dX10_countAlike_2 : decode cX10_countAlike 2 = .ok (.iconst 0, 1) := by decide +kernel
theorem dX10_countAlike_3 : decode cX10_countAlike 3 = .ok (.istore_n 3, 1) := by decide +kernel
theorem dX10_countAlike_4 : decode cX10_countAlike 4 = .ok (.iload_n 3, 1) := by decide +kernel
theorem dX10_countAlike_5 : decode cX10_countAlike 5 = .ok (.aload_n 1, 1) := by decide +kernel
theorem dX10_countAlike_6 : decode cX10_countAlike 6 = .ok (.invokevirtual 83, 3) := by decide +kernel
theorem dX10_countAlike_9 : decode cX10_countAlike 9 = .ok (.if_icmp .ge 46, 3) := by decide +kernel
theorem dX10_countAlike_12 : decode cX10_countAlike 12 = .ok (.aload_n 0, 1) := by decide +kernel
theorem dX10_countAlike_13 : decode cX10_countAlike 13 = .ok (.getfield 32, 3) := by decide +kernel
theorem dX10_countAlike_16 : decode cX10_countAlike 16 = .ok (.iload_n 3, 1) := by decide +kernel
theorem dX10_countAlike_17 : decode cX10_countAlike 17 = .ok (.iadd, 1) := by decide +kernel
theorem dX10_countAlike_18 : decode cX10_countAlike 18 = .ok (.aload_n 0, 1) := by decide +kernel
theorem dX10_countAlike_19 : decode cX10_countAlike 19 = .ok (.getfield 28, 3) := by decide +kernel
theorem dX10_countAlike_22 : decode cX10_countAlike 22 = .ok (.if_icmp .ge 22, 3) := by decide +kernel
theorem dX10_countAlike_25 : decode cX10_countAlike 25 = .ok (.aload_n 0, 1) := by decide +kernel
theorem dX10_countAlike_26 : decode cX10_countAlike 26 = .ok (.getfield 9, 3) := by decide +kernel
theorem dX10_countAlike_29 : decode cX10_countAlike 29 = .ok (.aload_n 0, 1) := by decide +kernel
theorem dX10_countAlike_30 : decode cX10_countAlike 30 = .ok (.getfield 32, 3) := by decide +kernel
theorem dX10_countAlike_33 : decode cX10_countAlike 33 = .ok (.iload_n 3, 1) := by decide +kernel
theorem dX10_countAlike_34 : decode cX10_countAlike 34 = .ok (.iadd, 1) := by decide +kernel
theorem dX10_countAlike_35 : decode cX10_countAlike 35 = .ok (.caload, 1) := by decide +kernel
theorem dX10_countAlike_36 : decode cX10_countAlike 36 = .ok (.aload_n 1, 1) := by decide +kernel
theorem dX10_countAlike_37 : decode cX10_countAlike 37 = .ok (.iload_n 3, 1) := by decide +kernel
theorem dX10_countAlike_38 : decode cX10_countAlike 38 = .ok (.invokevirtual 87, 3) := by decide +kernel
theorem dX10_countAlike_41 : decode cX10_countAlike 41 = .ok (.if_icmp .eq 5, 3) := by decide +kernel
theorem dX10_countAlike_44 : decode cX10_countAlike 44 = .ok (.iload_n 2, 1) := by decide +kernel
theorem dX10_countAlike_45 : decode cX10_countAlike 45 = .ok (.ireturn, 1) := by decide +kernel
theorem dX10_countAlike_46 : decode cX10_countAlike 46 = .ok (.iinc 2 1, 3) := by decide +kernel
theorem dX10_countAlike_49 : decode cX10_countAlike 49 = .ok (.iinc 3 1, 3) := by decide +kernel
theorem dX10_countAlike_52 : decode cX10_countAlike 52 = .ok (.goto (-48), 3) := by decide +kernel
theorem dX10_countAlike_55 : decode cX10_countAlike 55 = .ok (.iload_n 2, 1) := by decide +kernel
theorem dX10_countAlike_56 : decode cX10_countAlike 56 = .ok (.ireturn, 1) := by decide +kernel
set_option maxRecDepth 20000 in
theorem ggX10_readNumber_X10_readDigit : GoodIn wsX10_readNumber wsX10_readDigit := goodIn_r _ [5, 6, 7, 8, 9, 10, 11, 12, 13, 14, 15, 16] (by decide +kernel) (by decide +kernel)
set_option maxRecDepth 20000 in
theorem gX10_readNumber_X10_readDigit : GoodIn wsX10_readNumber (wsV RX10 66 RX10 yX10_readDigit wsX10_readDigit) := goodIn_app (goodIn_of _ (by decide +kernel)) ggX10_readNumber_X10_readDigit
theorem dX10_readNumber_0 : decode cX10_readNumber 0 = .ok (.aload_n 0, 1) := by decide +kernel
theorem dX10_readNumber_1 : decode cX10_readNumber 1 = .ok (.invokevirtual 66, 3) := by decide +kernel
theorem dX10_readNumber_4 : decode cX10_readNumber 4 = .ok (.istore_n 1, 1) := by decide +kernel
theorem dX10_readNumber_5 : decode cX10_readNumber 5 = .ok (.iload_n 1, 1) := by decide +kernel
theorem dX10_readNumber_6 : decode cX10_readNumber 6 = .ok (.ifCond .ge 5, 3) := by decide +kernel
theorem dX10_readNumber_9 : decode cX10_readNumber 9 = .ok (.iconst (-1), 1) := by decide +kernel
theorem dX10_readNumber_10 : decode cX10_readNumber 10 = .ok (.ireturn, 1) := by decide +kernel
theorem dX10_readNumber_11 : decode cX10_readNumber 11 = .ok (.aload_n 0, 1) := by decide +kernel
theorem dX10_readNumber_12 : decode cX10_readNumber 12 = .ok (.invokevirtual 66, 3) := by decide +kernel
theorem dX10_readNumber_15 : decode cX10_readNumber 15 = .ok (.istore_n 2, 1) := by decide +kernel
theorem dX10_readNumber_16 : decode cX10_readNumber 16 = .ok (.iload_n 2, 1) := by decide +kernel
theorem dX10_readNumber_17 : decode cX10_readNumber 17 = .ok (.ifCond .ge 7, 3) := by decide +kernel
theorem dX10_readNumber_20 : decode cX10_readNumber 20 = .ok (.iload_n 1, 1) := by decide +kernel
theorem dX10_readNumber_21 : decode cX10_readNumber 21 = .ok (.goto 9, 3) := by decide +kernel
theorem dX10_readNumber_24 : decode cX10_readNumber 24 = .ok (.iload_n 1, 1) := by decide +kernel
theorem dX10_readNumber_25 : decode cX10_readNumber 25 = .ok (.bipush 10, 2) := by decide +kernel
theorem dX10_readNumber_27 : decode cX10_readNumber 27 = .ok (.imul, 1) := by decide +kernel
theorem dX10_readNumber_28 : decode cX10_readNumber 28 = .ok (.iload_n 2, 1) := by decide +kernel
theorem dX10_readNumber_29 : decode cX10_readNumber 29 = .ok (.iadd, 1) := by decide +kernel
theorem dX10_readNumber_30 : decode cX10_readNumber 30 = .ok (.ireturn, 1) := by decide +kernel
theorem dX10_readDigit_0 : decode cX10_readDigit 0 = .ok (.aload_n 0, 1) := by decide +kernel
theorem dX10_readDigit_1 : decode cX10_readDigit 1 = .ok (.getfield 32, 3) := by decide +kernel
theorem dX10_readDigit_4 : decode cX10_readDigit 4 = .ok (.aload_n 0, 1) := by decide +kernel
theorem dX10_readDigit_5 : decode cX10_readDigit 5 = .ok (.getfield 28, 3) := by decide +kernel
theorem dX10_readDigit_8 : decode cX10_readDigit 8 = .ok (.if_icmp .ge 31, 3) := by decide +kernel
theorem dX10_readDigit_11 : decode cX10_readDigit 11 = .ok (.aload_n 0, 1) := by decide +kernel
theorem dX10_readDigit_12 : decode cX10_readDigit 12 = .ok (.getfield 9, 3) := by decide +kernel
theorem dX10_readDigit_15 : decode cX10_readDigit 15 = .ok (.aload_n 0, 1) := by decide +kernel
theorem dX10_readDigit_16 : decode cX10_readDigit 16 = .ok (.getfield 32, 3) := by decide +kernel
theorem dX10_readDigit_19 : decode cX10_readDigit 19 = .ok (.caload, 1) := by decide +kernel
theorem dX10_readDigit_20 : decode cX10_readDigit 20 = .ok (.bipush 48, 2) := by decide +kernel
theorem dX10_readDigit_22 : decode cX10_readDigit 22 = .ok (.if_icmp .lt 17, 3) := by decide +kernel
theorem dX10_readDigit_25 : decode cX10_readDigit 25 = .ok (.aload_n 0, 1) := by decide +kernel
theorem dX10_readDigit_26 : decode cX10_readDigit 26 = .ok (.getfield 9, 3) := by decide +kernel
theorem dX10_readDigit_29 : decode cX10_readDigit 29 = .ok (.aload_n 0, 1) := by decide +kernel
theorem dX10_readDigit_30 : decode cX10_readDigit 30 = .ok (.getfield 32, 3) := by decide +kernel
theorem dX10_readDigit_33 : decode cX10_readDigit 33 = .ok (.caload, 1) := by decide +kernel
theorem dX10_readDigit_34 : decode cX10_readDigit 34 = .ok (.bipush 57, 2) := by decide +kernel
theorem dX10_readDigit_36 : decode cX10_readDigit 36 = .ok (.if_icmp .le 5, 3) := by decide +kernel
theorem dX10_readDigit_39 : decode cX10_readDigit 39 = .ok (.iconst (-1), 1) := by decide +kernel
theorem dX10_readDigit_40 : decode cX10_readDigit 40 = .ok (.ireturn, 1) := by decide +kernel
theorem dX10_readDigit_41 : decode cX10_readDigit 41 = .ok (.aload_n 0, 1) := by decide +kernel
theorem dX10_readDigit_42 : decode cX10_readDigit 42 = .ok (.getfield 9, 3) := by decide +kernel
theorem dX10_readDigit_45 : decode cX10_readDigit 45 = .ok (.aload_n 0, 1) := by decide +kernel
theorem dX10_readDigit_46 : decode cX10_readDigit 46 = .ok (.getfield 32, 3) := by decide +kernel
theorem dX10_readDigit_49 : decode cX10_readDigit 49 = .ok (.caload, 1) := by decide +kernel
theorem dX10_readDigit_50 : decode cX10_readDigit 50 = .ok (.bipush 48, 2) := by decide +kernel
theorem dX10_readDigit_52 : decode cX10_readDigit 52 = .ok (.isub, 1) := by decide +kernel
theorem dX10_readDigit_53 : decode cX10_readDigit 53 = .ok (.istore_n 1, 1) := by decide +kernel
theorem dX10_readDigit_54 : decode cX10_readDigit 54 = .ok (.aload_n 0, 1) := by decide +kernel
theorem dX10_readDigit_55 : decode cX10_readDigit 55 = .ok (.dup, 1) := by decide +kernel
theorem dX10_readDigit_56 : decode cX10_readDigit 56 = .ok (.getfield 32, 3) := by decide +kernel
theorem dX10_readDigit_59 : decode cX10_readDigit 59 = .ok (.iconst 1, 1) := by decide +kernel
theorem dX10_readDigit_60 : decode cX10_readDigit 60 = .ok (.iadd, 1) := by decide +kernel
theorem dX10_readDigit_61 : decode cX10_readDigit 61 = .ok (.putfield 32, 3) := by decide +kernel
theorem dX10_readDigit_64 : decode cX10_readDigit 64 = .ok (.iload_n 1, 1) := by decide +kernel
theorem dX10_readDigit_65 : decode cX10_readDigit 65 = .ok (.ireturn, 1) := by decide +kernel
theorem dX10_passOver_0 : decode cX10_passOver 0 = .ok (.aload_n 0, 1) := by decide +kernel
theorem dX10_passOver_1 : decode cX10_passOver 1 = .ok (.getfield 32, 3) := by decide +kernel
theorem dX10_passOver_4 : decode cX10_passOver 4 = .ok (.aload_n 0, 1) := by decide +kernel
theorem dX10_passOver_5 : decode cX10_passOver 5 = .ok (.getfield 28, 3) := by decide +kernel
theorem dX10_passOver_8 : decode cX10_passOver 8 = .ok (.if_icmp .ge 16, 3) := by decide +kernel
theorem dX10_passOver_11 : decode cX10_passOver 11 = .ok (.aload_n 0, 1) := by decide +kernel
theorem dX10_passOver_12 : decode cX10_passOver 12 = .ok (.getfield 9, 3) := by decide +kernel
theorem dX10_passOver_15 : decode cX10_passOver 15 = .ok (.aload_n 0, 1) := by decide +kernel
theorem dX10_passOver_16 : decode cX10_passOver 16 = .ok (.getfield 32, 3) := by decide +kernel
theorem dX10_passOver_19 : decode cX10_passOver 19 = .ok (.caload, 1) := by decide +kernel
theorem dX10_passOver_20 : decode cX10_passOver 20 = .ok (.iload_n 1, 1) := by decide +kernel
theorem dX10_passOver_21 : decode cX10_passOver 21 = .ok (.if_icmp .eq 5, 3) := by decide +kernel
theorem dX10_passOver_24 : decode cX10_passOver 24 = .ok (.iconst 0, 1) := by decide +kernel
theorem dX10_passOver_25 : decode cX10_passOver 25 = .ok (.ireturn, 1) := by decide +kernel
theorem dX10_passOver_26 : decode cX10_passOver 26 = .ok (.aload_n 0, 1) := by decide +kernel
theorem dX10_passOver_27 : decode cX10_passOver 27 = .ok (.dup, 1) := by decide +kernel
theorem dX10_passOver_28 : decode cX10_passOver 28 = .ok (.getfield 32, 3) := by decide +kernel
theorem dX10_passOver_31 : decode cX10_passOver 31 = .ok (.iconst 1, 1) := by decide +kernel
theorem dX10_passOver_32 : decode cX10_passOver 32 = .ok (.iadd, 1) := by decide +kernel
theorem dX10_passOver_33 : decode cX10_passOver 33 = .ok (.putfield 32, 3) := by decide +kernel
theorem dX10_passOver_36 : decode cX10_passOver 36 = .ok (.iconst 1, 1) := by decide +kernel
theorem dX10_passOver_37 : decode cX10_passOver 37 = .ok (.ireturn, 1) := by decide +kernel
theorem dX11_init_0 : decode cX11_init 0 = .ok (.aload_n 0, 1) := by decide +kernel
theorem dX11_init_1 : decode cX11_init 1 = .ok (.invokespecial 3, 3) := by decide +kernel
theorem dX11_init_4 : decode cX11_init 4 = .ok (.aload_n 0, 1) := by decide +kernel
theorem dX11_init_5 : decode cX11_init 5 = .ok (.bipush (-4), 2) := by decide +kernel
theorem dX11_init_7 : decode cX11_init 7 = .ok (.putfield 9, 3) := by decide +kernel
theorem dX11_init_10 : decode cX11_init 10 = .ok (.aload_n 0, 1) := by decide +kernel
theorem dX11_init_11 : decode cX11_init 11 = .ok (.bipush (-4), 2) := by decide +kernel
theorem dX11_init_13 : decode cX11_init 13 = .ok (.putfield 15, 3) := by decide +kernel
theorem dX11_init_16 : decode cX11_init 16 = .ok (.aload_n 0, 1) := by decide +kernel
theorem dX11_init_17 : decode cX11_init 17 = .ok (.bipush (-4), 2) := by decide +kernel
theorem dX11_init_19 : decode cX11_init 19 = .ok (.putfield 18, 3) := by decide +kernel
theorem dX11_init_22 : decode cX11_init 22 = .ok (.aload_n 0, 1) := by decide +kernel
theorem dX11_init_23 : decode cX11_init 23 = .ok (.bipush (-4), 2) := by decide +kernel
theorem dX11_init_25 : decode cX11_init 25 = .ok (.putfield 21, 3) := by decide +kernel
theorem dX11_init_28 : decode cX11_init 28 = .ok (.return_, 1) := by decide +kernel
theorem dX11_note_0 : decode cX11_note 0 = .ok (.aload_n 0, 1) := by decide +kernel
theorem dX11_note_1 : decode cX11_note 1 = .ok (.iload_n 1, 1) := by decide +kernel
theorem dX11_note_2 : decode cX11_note 2 = .ok (.putfield 9, 3) := by decide +kernel
theorem dX11_note_5 : decode cX11_note 5 = .ok (.aload_n 0, 1) := by decide +kernel
theorem dX11_note_6 : decode cX11_note 6 = .ok (.iload_n 2, 1) := by decide +kernel
theorem dX11_note_7 : decode cX11_note 7 = .ok (.putfield 15, 3) := by decide +kernel
theorem dX11_note_10 : decode cX11_note 10 = .ok (.aload_n 0, 1) := by decide +kernel
theorem dX11_note_11 : decode cX11_note 11 = .ok (.bipush (-4), 2) := by decide +kernel
theorem dX11_note_13 : decode cX11_note 13 = .ok (.putfield 18, 3) := by decide +kernel
theorem dX11_note_16 : decode cX11_note 16 = .ok (.aload_n 0, 1) := by decide +kernel
theorem dX11_note_17 : decode cX11_note 17 = .ok (.bipush (-4), 2) := by decide +kernel
theorem dX11_note_19 : decode cX11_note 19 = .ok (.putfield 21, 3) := by decide +kernel
theorem dX11_note_22 : decode cX11_note 22 = .ok (.bipush (-3), 2) := by decide +kernel
theorem dX11_note_24 : decode cX11_note 24 = .ok (.ireturn, 1) := by decide +kernel
theorem dX11_cover_0 : decode cX11_cover 0 = .ok (.aload_n 0, 1) := by decide +kernel
theorem dX11_cover_1 : decode cX11_cover 1 = .ok (.aload_n 0, 1) := by decide +kernel
theorem dX11_cover_2 : decode cX11_cover 2 = .ok (.getfield 9, 3) := by decide +kernel
theorem dX11_cover_5 : decode cX11_cover 5 = .ok (.putfield 18, 3) := by decide +kernel
theorem dX11_cover_8 : decode cX11_cover 8 = .ok (.aload_n 0, 1) := by decide +kernel
theorem dX11_cover_9 : decode cX11_cover 9 = .ok (.aload_n 0, 1) := by decide +kernel
theorem dX11_cover_10 : decode cX11_cover 10 = .ok (.getfield 15, 3) := by decide +kernel
theorem dX11_cover_13 : decode cX11_cover 13 = .ok (.putfield 21, 3) := by decide +kernel
theorem dX11_cover_16 : decode cX11_cover 16 = .ok (.aload_n 0, 1) := by decide +kernel
theorem dX11_cover_17 : decode cX11_cover 17 = .ok (.iload_n 1, 1) := by decide +kernel
theorem dX11_cover_18 : decode cX11_cover 18 = .ok (.putfield 9, 3) := by decide +kernel
theorem dX11_cover_21 : decode cX11_cover 21 = .ok (.aload_n 0, 1) := by decide +kernel
theorem dX11_cover_22 : decode cX11_cover 22 = .ok (.iload_n 2, 1) := by decide +kernel
theorem dX11_cover_23 : decode cX11_cover 23 = .ok (.putfield 15, 3) := by decide +kernel
theorem dX11_cover_26 : decode cX11_cover 26 = .ok (.bipush (-3), 2) := by decide +kernel
theorem dX11_cover_28 : decode cX11_cover 28 = .ok (.ireturn, 1) := by decide +kernel
