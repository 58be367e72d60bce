theorem dX0_init_0 : decode cX0_init 0 = .ok (.aload_n 0, 1) := by decide +kernel
theorem dX0_init_1 : decode cX0_init 1 = .ok (.invokespecial 1, 3) := by decide +kernel
theorem dX0_init_4 : decode cX0_init 4 = .ok (.aload_n 0, 1) := by decide +kernel
theorem dX0_init_5 : decode cX0_init 5 = .ok (.iload_n 1, 1) := by decide +kernel
theorem dX0_init_6 : decode cX0_init 6 = .ok (.putfield 7, 3) := by decide +kernel
theorem dX0_init_9 : decode cX0_init 9 = .ok (.aload_n 0, 1) := by decide +kernel
theorem dX0_init_10 : decode cX0_init 10 = .ok (.iload_n 2, 1) := by decide +kernel
theorem dX0_init_11 : decode cX0_init 11 = .ok (.putfield 13, 3) := by decide +kernel
theorem dX0_init_14 : decode cX0_init 14 = .ok (.aload_n 0, 1) := by decide +kernel
theorem dX0_init_15 : decode cX0_init 15 = .ok (.aload_n 3, 1) := by decide +kernel
theorem dX0_init_16 : decode cX0_init 16 = .ok (.putfield 16, 3) := by decide +kernel
theorem dX0_init_19 : decode cX0_init 19 = .ok (.return_, 1) := by decide +kernel
theorem dX1_init_0 : decode cX1_init 0 = .ok (.aload_n 0, 1) := by decide +kernel
theorem dX1_init_1 : decode cX1_init 1 = .ok (.invokespecial 3, 3) := by decide +kernel
theorem dX1_init_4 : decode cX1_init 4 = .ok (.aload_n 0, 1) := by decide +kernel
theorem dX1_init_5 : decode cX1_init 5 = .ok (.bipush 60, 2) := by decide +kernel
theorem dX1_init_7 : decode cX1_init 7 = .ok (.newarray .int, 2) := by decide +kernel
theorem dX1_init_9 : decode cX1_init 9 = .ok (.putfield 9, 3) := by decide +kernel
theorem dX1_init_12 : decode cX1_init 12 = .ok (.aload_n 0, 1) := by decide +kernel
theorem dX1_init_13 : decode cX1_init 13 = .ok (.iconst 0, 1) := by decide +kernel
theorem dX1_init_14 : decode cX1_init 14 = .ok (.putfield 15, 3) := by decide +kernel
theorem dX1_init_17 : decode cX1_init 17 = .ok (.aload_n 0, 1) := by decide +kernel
theorem dX1_init_18 : decode cX1_init 18 = .ok (.iconst 0, 1) := by decide +kernel
theorem dX1_init_19 : decode cX1_init 19 = .ok (.putfield 19, 3) := by decide +kernel
theorem dX1_init_22 : decode cX1_init 22 = .ok (.return_, 1) := by decide +kernel
theorem dX1_keep_0 : decode cX1_keep 0 = .ok (.aload_n 1, 1) := by decide +kernel
theorem dX1_keep_1 : decode cX1_keep 1 = .ok (.iconst 0, 1) := by decide +kernel
theorem dX1_keep_2 : decode cX1_keep 2 = .ok (.aload_n 0, 1) := by decide +kernel
theorem dX1_keep_3 : decode cX1_keep 3 = .ok (.getfield 9, 3) := by decide +kernel
theorem dX1_keep_6 : decode cX1_keep 6 = .ok (.iconst 0, 1) := by decide +kernel
theorem dX1_keep_7 : decode cX1_keep 7 = .ok (.iload_n 2, 1) := by decide +kernel
theorem dX1_keep_8 : decode cX1_keep 8 = .ok (.invokestatic 23, 3) := by decide +kernel
theorem dX1_keep_11 : decode cX1_keep 11 = .ok (.aload_n 0, 1) := by decide +kernel
theorem dX1_keep_12 : decode cX1_keep 12 = .ok (.iload_n 2, 1) := by decide +kernel
theorem dX1_keep_13 : decode cX1_keep 13 = .ok (.putfield 15, 3) := by decide +kernel
theorem dX1_keep_16 : decode cX1_keep 16 = .ok (.aload_n 0, 1) := by decide +kernel
theorem dX1_keep_17 : decode cX1_keep 17 = .ok (.iconst 1, 1) := by decide +kernel
theorem dX1_keep_18 : decode cX1_keep 18 = .ok (.putfield 19, 3) := by decide +kernel
theorem dX1_keep_21 : decode cX1_keep 21 = .ok (.return_, 1) := by decide +kernel
set_option maxRecDepth 100000 in
theorem ggX1_spansIn_X1_beginsSpan : GoodIn wsX1_spansIn wsX1_beginsSpan := goodIn_r _ [6, 7, 8, 9, 10] (by rfl) (by decide +kernel)
set_option maxRecDepth 20000 in
theorem gX1_spansIn_X1_beginsSpan : GoodIn wsX1_spansIn (wsV RX1 29 RX1 yX1_beginsSpan wsX1_beginsSpan) := goodIn_app (goodIn_of _ (by decide +kernel)) ggX1_spansIn_X1_beginsSpan
theorem dX1_spansIn_0 : decode cX1_spansIn 0 = .ok (.iconst 0, 1) := by decide +kernel
theorem dX1_spansIn_1 : decode cX1_spansIn 1 = .ok (.istore_n 1, 1) := by decide +kernel
theorem dX1_spansIn_2 : decode cX1_spansIn 2 = .ok (.iconst 0, 1) := by decide +kernel
theorem dX1_spansIn_3 : decode cX1_spansIn 3 = .ok (.istore_n 2, 1) := by decide +kernel
theorem dX1_spansIn_4 : decode cX1_spansIn 4 = .ok (.iload_n 2, 1) := by decide +kernel
theorem dX1_spansIn_5 : decode cX1_spansIn 5 = .ok (.aload_n 0, 1) := by decide +kernel
theorem dX1_spansIn_6 : decode cX1_spansIn 6 = .ok (.getfield 15, 3) := by decide +kernel
theorem dX1_spansIn_9 : decode cX1_spansIn 9 = .ok (.if_icmp .ge 25, 3) := by decide +kernel
theorem dX1_spansIn_12 : decode cX1_spansIn 12 = .ok (.iload_n 1, 1) := by decide +kernel
theorem dX1_spansIn_13 : decode cX1_spansIn 13 = .ok (.aload_n 0, 1) := by decide +kernel
theorem dX1_spansIn_14 : decode cX1_spansIn 14 = .ok (.iload_n 2, 1) := by decide +kernel
theorem dX1_spansIn_15 : decode cX1_spansIn 15 = .ok (.invokevirtual 29, 3) := by decide +kernel
theorem dX1_spansIn_18 : decode cX1_spansIn 18 = .ok (.ifCond .eq 7, 3) := by decide +kernel
theorem dX1_spansIn_21 : decode cX1_spansIn 21 = .ok (.iconst 1, 1) := by decide +kernel
theorem dX1_spansIn_22 : decode cX1_spansIn 22 = .ok (.goto 4, 3) := by decide +kernel
theorem dX1_spansIn_25 : decode cX1_spansIn 25 = .ok (.iconst 0, 1) := by decide +kernel
theorem dX1_spansIn_26 : decode cX1_spansIn 26 = .ok (.iadd, 1) := by decide +kernel
theorem dX1_spansIn_27 : decode cX1_spansIn 27 = .ok (.istore_n 1, 1) := by decide +kernel
theorem dX1_spansIn_28 : decode cX1_spansIn 28 = .ok (.iinc 2 1, 3) := by decide +kernel
theorem dX1_spansIn_31 : decode cX1_spansIn 31 = .ok (.goto (-27), 3) := by decide +kernel
theorem dX1_spansIn_34 : decode cX1_spansIn 34 = .ok (.iload_n 1, 1) := by decide +kernel
theorem dX1_spansIn_35 : decode cX1_spansIn 35 = .ok (.ireturn, 1) := by decide +kernel
set_option maxRecDepth 100000 in
theorem ggX1_firstOfSpan_X1_beginsSpan : GoodIn wsX1_firstOfSpan wsX1_beginsSpan := goodIn_r _ [6, 7, 8, 9, 10] (by rfl) (by decide +kernel)
set_option maxRecDepth 20000 in
theorem gX1_firstOfSpan_X1_beginsSpan : GoodIn wsX1_firstOfSpan (wsV RX1 29 RX1 yX1_beginsSpan wsX1_beginsSpan) := goodIn_app (goodIn_of _ (by decide +kernel)) ggX1_firstOfSpan_X1_beginsSpan
theorem dX1_firstOfSpan_0 : decode cX1_firstOfSpan 0 = .ok (.iconst 0, 1) := by decide +kernel
theorem dX1_firstOfSpan_1 : decode cX1_firstOfSpan 1 = .ok (.istore_n 2, 1) := by decide +kernel
theorem dX1_firstOfSpan_2 : decode cX1_firstOfSpan 2 = .ok (.iconst 0, 1) := by decide +kernel
theorem dX1_firstOfSpan_3 : decode cX1_firstOfSpan 3 = .ok (.istore_n 3, 1) := by decide +kernel
theorem dX1_firstOfSpan_4 : decode cX1_firstOfSpan 4 = .ok (.iload_n 3, 1) := by decide +kernel
theorem dX1_firstOfSpan_5 : decode cX1_firstOfSpan 5 = .ok (.aload_n 0, 1) := by decide +kernel
theorem dX1_firstOfSpan_6 : decode cX1_firstOfSpan 6 = .ok (.getfield 15, 3) := by decide +kernel
theorem dX1_firstOfSpan_9 : decode cX1_firstOfSpan 9 = .ok (.if_icmp .ge 27, 3) := by decide +kernel
theorem dX1_firstOfSpan_12 : decode cX1_firstOfSpan 12 = .ok (.aload_n 0, 1) := by decide +kernel
theorem dX1_firstOfSpan_13 : decode cX1_firstOfSpan 13 = .ok (.iload_n 3, 1) := by decide +kernel
theorem dX1_firstOfSpan_14 : decode cX1_firstOfSpan 14 = .ok (.invokevirtual 29, 3) := by decide +kernel
theorem dX1_firstOfSpan_17 : decode cX1_firstOfSpan 17 = .ok (.ifCond .eq 13, 3) := by decide +kernel
theorem dX1_firstOfSpan_20 : decode cX1_firstOfSpan 20 = .ok (.iload_n 2, 1) := by decide +kernel
theorem dX1_firstOfSpan_21 : decode cX1_firstOfSpan 21 = .ok (.iload_n 1, 1) := by decide +kernel
theorem dX1_firstOfSpan_22 : decode cX1_firstOfSpan 22 = .ok (.if_icmp .ne 5, 3) := by decide +kernel
theorem dX1_firstOfSpan_25 : decode cX1_firstOfSpan 25 = .ok (.iload_n 3, 1) := by decide +kernel
theorem dX1_firstOfSpan_26 : decode cX1_firstOfSpan 26 = .ok (.ireturn, 1) := by decide +kernel
theorem dX1_firstOfSpan_27 : decode cX1_firstOfSpan 27 = .ok (.iinc 2 1, 3) := by decide +kernel
theorem dX1_firstOfSpan_30 : decode cX1_firstOfSpan 30 = .ok (.iinc 3 1, 3) := by decide +kernel
theorem dX1_firstOfSpan_33 : decode cX1_firstOfSpan 33 = .ok (.goto (-29), 3) := by decide +kernel
theorem dX1_firstOfSpan_36 : decode cX1_firstOfSpan 36 = .ok (.iconst (-1), 1) := by decide +kernel
theorem dX1_firstOfSpan_37 : decode cX1_firstOfSpan 37 = .ok (.ireturn, 1) := by decide +kernel
set_option maxRecDepth 100000 in
theorem ggX1_lengthOfSpan_X1_beginsSpan : GoodIn wsX1_lengthOfSpan wsX1_beginsSpan := goodIn_r _ [6, 7, 8, 9, 10] (by rfl) (by decide +kernel)
set_option maxRecDepth 20000 in
theorem gX1_lengthOfSpan_X1_beginsSpan : GoodIn wsX1_lengthOfSpan (wsV RX1 29 RX1 yX1_beginsSpan wsX1_beginsSpan) := goodIn_app (goodIn_of _ (by decide +kernel)) ggX1_lengthOfSpan_X1_beginsSpan
theorem dX1_lengthOfSpan_0 : decode cX1_lengthOfSpan 0 = .ok (.iload_n 1, 1) := by decide +kernel
theorem dX1_lengthOfSpan_1 : decode cX1_lengthOfSpan 1 = .ok (.iconst 1, 1) := by decide +kernel
theorem dX1_lengthOfSpan_2 : decode cX1_lengthOfSpan 2 = .ok (.iadd, 1) := by decide +kernel
theorem dX1_lengthOfSpan_3 : decode cX1_lengthOfSpan 3 = .ok (.istore_n 2, 1) := by decide +kernel
theorem dX1_lengthOfSpan_4 : decode cX1_lengthOfSpan 4 = .ok (.iload_n 2, 1) := by decide +kernel
theorem dX1_lengthOfSpan_5 : decode cX1_lengthOfSpan 5 = .ok (.aload_n 0, 1) := by decide +kernel
theorem dX1_lengthOfSpan_6 : decode cX1_lengthOfSpan 6 = .ok (.getfield 15, 3) := by decide +kernel
theorem dX1_lengthOfSpan_9 : decode cX1_lengthOfSpan 9 = .ok (.if_icmp .ge 17, 3) := by decide +kernel
theorem dX1_lengthOfSpan_12 : decode cX1_lengthOfSpan 12 = .ok (.aload_n 0, 1) := by decide +kernel
theorem dX1_lengthOfSpan_13 : decode cX1_lengthOfSpan 13 = .ok (.iload_n 2, 1) := by decide +kernel
theorem dX1_lengthOfSpan_14 : decode cX1_lengthOfSpan 14 = .ok (.invokevirtual 29, 3) := by decide +kernel
theorem dX1_lengthOfSpan_17 : decode cX1_lengthOfSpan 17 = .ok (.ifCond .ne 9, 3) := by decide +kernel
theorem dX1_lengthOfSpan_20 : decode cX1_lengthOfSpan 20 = .ok (.iinc 2 1, 3) := by decide +kernel
theorem dX1_lengthOfSpan_23 : decode cX1_lengthOfSpan 23 = .ok (.goto (-19), 3) := by decide +kernel
theorem dX1_lengthOfSpan_26 : decode cX1_lengthOfSpan 26 = .ok (.iload_n 2, 1) := by decide +kernel
theorem dX1_lengthOfSpan_27 : decode cX1_lengthOfSpan 27 = .ok (.iload_n 1, 1) := by decide +kernel
theorem dX1_lengthOfSpan_28 : decode cX1_lengthOfSpan 28 = .ok (.isub, 1) := by decide +kernel
theorem dX1_lengthOfSpan_29 : decode cX1_lengthOfSpan 29 = .ok (.ireturn, 1) := by decide +kernel
theorem dX1_beginsSpan_0 : decode cX1_beginsSpan 0 = .ok (.iload_n 1, 1) := by decide +kernel
theorem dX1_beginsSpan_1 : decode cX1_beginsSpan 1 = .ok (.ifCond .eq 20, 3) := by decide +kernel
theorem dX1_beginsSpan_4 : decode cX1_beginsSpan 4 = .ok (.aload_n 0, 1) := by decide +kernel
theorem dX1_beginsSpan_5 : decode cX1_beginsSpan 5 = .ok (.getfield 9, 3) := by decide +kernel
theorem dX1_beginsSpan_8 : decode cX1_beginsSpan 8 = .ok (.iload_n 1, 1) := by decide +kernel
theorem dX1_beginsSpan_9 : decode cX1_beginsSpan 9 = .ok (.iaload, 1) := by decide +kernel
theorem dX1_beginsSpan_10 : decode cX1_beginsSpan 10 = .ok (.aload_n 0, 1) := by decide +kernel
theorem dX1_beginsSpan_11 : decode cX1_beginsSpan 11 = .ok (.getfield 9, 3) := by decide +kernel
theorem dX1_beginsSpan_14 : decode cX1_beginsSpan 14 = .ok (.iload_n 1, 1) := by decide +kernel
theorem dX1_beginsSpan_15 : decode cX1_beginsSpan 15 = .ok (.iconst 1, 1) := by decide +kernel
theorem dX1_beginsSpan_16 : decode cX1_beginsSpan 16 = .ok (.isub, 1) := by decide +kernel
theorem dX1_beginsSpan_17 : decode cX1_beginsSpan 17 = .ok (.iaload, 1) := by decide +kernel
theorem dX1_beginsSpan_18 : decode cX1_beginsSpan 18 = .ok (.if_icmp .eq 7, 3) := by decide +kernel
theorem dX1_beginsSpan_21 : decode cX1_beginsSpan 21 = .ok (.iconst 1, 1) := by decide +kernel
theorem dX1_beginsSpan_22 : decode cX1_beginsSpan 22 = .ok (.goto 4, 3) := by decide +kernel
theorem dX1_beginsSpan_25 : decode cX1_beginsSpan 25 = .ok (.iconst 0, 1) := by decide +kernel
theorem dX1_beginsSpan_26 : decode cX1_beginsSpan 26 = .ok (.ireturn, 1) := by decide +kernel
theorem dX2_init_0 : decode cX2_init 0 = .ok (.aload_n 0, 1) := by decide +kernel
theorem dX2_init_1 : decode cX2_init 1 = .ok (.invokespecial 3, 3) := by decide +kernel
theorem dX2_init_4 : decode cX2_init 4 = .ok (.aload_n 0, 1) := by decide +kernel
theorem dX2_init_5 : decode cX2_init 5 = .ok (.sipush 600, 3) := by decide +kernel
theorem dX2_init_8 : decode cX2_init 8 = .ok (.newarray .byte, 2) := by decide +kernel
theorem dX2_init_10 : decode cX2_init 10 = .ok (.putfield 9, 3) := by decide +kernel
theorem dX2_init_13 : decode cX2_init 13 = .ok (.aload_n 0, 1) := by decide +kernel
theorem dX2_init_14 : decode cX2_init 14 = .ok (.bipush 60, 2) := by decide +kernel
theorem dX2_init_16 : decode cX2_init 16 = .ok (.newarray .int, 2) := by decide +kernel
theorem dX2_init_18 : decode cX2_init 18 = .ok (.putfield 15, 3) := by decide +kernel
theorem dX2_init_21 : decode cX2_init 21 = .ok (.aload_n 0, 1) := by decide +kernel
theorem dX2_init_22 : decode cX2_init 22 = .ok (.bipush 60, 2) := by decide +kernel
theorem dX2_init_24 : decode cX2_init 24 = .ok (.newarray .int, 2) := by decide +kernel
theorem dX2_init_26 : decode cX2_init 26 = .ok (.putfield 19, 3) := by decide +kernel
theorem dX2_init_29 : decode cX2_init 29 = .ok (.aload_n 0, 1) := by decide +kernel
theorem dX2_init_30 : decode cX2_init 30 = .ok (.iconst 0, 1) := by decide +kernel
theorem dX2_init_31 : decode cX2_init 31 = .ok (.putfield 22, 3) := by decide +kernel
theorem dX2_init_34 : decode cX2_init 34 = .ok (.aload_n 0, 1) := by decide +kernel
theorem dX2_init_35 : decode cX2_init 35 = .ok (.iconst 0, 1) := by decide +kernel
theorem dX2_init_36 : decode cX2_init 36 = .ok (.putfield 26, 3) := by decide +kernel
theorem dX2_init_39 : decode cX2_init 39 = .ok (.return_, 1) := by decide +kernel
theorem dX2_empty_0 : decode cX2_empty 0 = .ok (.aload_n 0, 1) := by decide +kernel
theorem dX2_empty_1 : decode cX2_empty 1 = .ok (.iconst 0, 1) := by decide +kernel
theorem dX2_empty_2 : decode cX2_empty 2 = .ok (.putfield 22, 3) := by decide +kernel
theorem dX2_empty_5 : decode cX2_empty 5 = .ok (.aload_n 0, 1) := by decide +kernel
theorem dX2_empty_6 : decode cX2_empty 6 = .ok (.iconst 0, 1) := by decide +kernel
theorem dX2_empty_7 : decode cX2_empty 7 = .ok (.putfield 26, 3) := by decide +kernel
theorem dX2_empty_10 : decode cX2_empty 10 = .ok (.return_, 1) := by decide +kernel
theorem dX2_append_0 : decode cX2_append 0 = .ok (.iload_n 2, 1) := by decide +kernel
theorem dX2_append_1 : decode cX2_append 1 = .ok (.ifCond .lt 23, 3) := by decide +kernel
theorem dX2_append_4 : decode cX2_append 4 = .ok (.iload_n 2, 1) := by decide +kernel
theorem dX2_append_5 : decode cX2_append 5 = .ok (.aload_n 1, 1) := by decide +kernel
theorem dX2_append_6 : decode cX2_append 6 = .ok (.arraylength, 1) := by decide +kernel
theorem dX2_append_7 : decode cX2_append 7 = .ok (.if_icmp .gt 17, 3) := by decide +kernel
theorem dX2_append_10 : decode cX2_append 10 = .ok (.iload_n 2, 1) := by decide +kernel
theorem dX2_append_11 : decode cX2_append 11 = .ok (.aload_n 0, 1) := by decide +kernel
theorem dX2_append_12 : decode cX2_append 12 = .ok (.getfield 9, 3) := by decide +kernel
theorem dX2_append_15 : decode cX2_append 15 = .ok (.arraylength, 1) := by decide +kernel
theorem dX2_append_16 : decode cX2_append 16 = .ok (.aload_n 0, 1) := by decide +kernel
theorem dX2_append_17 : decode cX2_append 17 = .ok (.getfield 22, 3) := by decide +kernel
theorem dX2_append_20 : decode cX2_append 20 = .ok (.isub, 1) := by decide +kernel
theorem dX2_append_21 : decode cX2_append 21 = .ok (.if_icmp .le 5, 3) := by decide +kernel
theorem dX2_append_24 : decode cX2_append 24 = .ok (.iconst 0, 1) := by decide +kernel
theorem dX2_append_25 : decode cX2_append 25 = .ok (.ireturn, 1) := by decide +kernel
theorem dX2_append_26 : decode cX2_append 26 = .ok (.aload_n 1, 1) := by decide +kernel
theorem dX2_append_27 : decode cX2_append 27 = .ok (.iconst 0, 1) := by decide +kernel
theorem dX2_append_28 : decode cX2_append 28 = .ok (.aload_n 0, 1) := by decide +kernel
theorem dX2_append_29 : decode cX2_append 29 = .ok (.getfield 9, 3) := by decide +kernel
theorem dX2_append_32 : decode cX2_append 32 = .ok (.aload_n 0, 1) := by decide +kernel
theorem dX2_append_33 : decode cX2_append 33 = .ok (.getfield 22, 3) := by decide +kernel
theorem dX2_append_36 : decode cX2_append 36 = .ok (.iload_n 2, 1) := by decide +kernel
theorem dX2_append_37 : decode cX2_append 37 = .ok (.invokestatic 29, 3) := by decide +kernel
theorem dX2_append_40 : decode cX2_append 40 = .ok (.aload_n 0, 1) := by decide +kernel
theorem dX2_append_41 : decode cX2_append 41 = .ok (.dup, 1) := by decide +kernel
theorem dX2_append_42 : decode cX2_append 42 = .ok (.getfield 22, 3) := by decide +kernel
theorem dX2_append_45 : decode cX2_append 45 = .ok (.iload_n 2, 1) := by decide +kernel
theorem dX2_append_46 : decode cX2_append 46 = .ok (.iadd, 1) := by decide +kernel
theorem dX2_append_47 : decode cX2_append 47 = .ok (.putfield 22, 3) := by decide +kernel
theorem dX2_append_50 : decode cX2_append 50 = .ok (.iconst 1, 1) := by decide +kernel
theorem dX2_append_51 : decode cX2_append 51 = .ok (.ireturn, 1) := by decide +kernel
set_option maxRecDepth 100000 in
theorem ggX2_findWords_X2_beginsWord : GoodIn wsX2_findWords wsX2_beginsWord := goodIn_r _ [9, 10, 11, 12, 8, 13, 22, 23, 24, 25, 26] (by rfl) (by decide +kernel)
set_option maxRecDepth 20000 in
theorem gX2_findWords_X2_beginsWord : GoodIn wsX2_findWords (wsV RX2 35 RX2 yX2_beginsWord wsX2_beginsWord) := goodIn_app (goodIn_of _ (by decide +kernel)) ggX2_findWords_X2_beginsWord
set_option maxRecDepth 100000 in
theorem ggX2_findWords_X2_lengthFrom : GoodIn wsX2_findWords wsX2_lengthFrom := goodIn_r _ [17, 10, 2, 18, 19, 20, 21, 11, 12, 8, 13, 22, 23, 24, 25, 26] (by rfl) (by decide +kernel)
set_option maxRecDepth 20000 in
theorem gX2_findWords_X2_lengthFrom : GoodIn wsX2_findWords (wsV RX2 39 RX2 yX2_lengthFrom wsX2_lengthFrom) := goodIn_app (goodIn_of _ (by decide +kernel)) ggX2_findWords_X2_lengthFrom
theorem dX2_findWords_0 : decode cX2_findWords 0 = .ok (.aload_n 0, 1) := by decide +kernel
theorem dX2_findWords_1 : decode cX2_findWords 1 = .ok (.iconst 0, 1) := by decide +kernel
theorem dX2_findWords_2 : decode cX2_findWords 2 = .ok (.putfield 26, 3) := by decide +kernel
theorem dX2_findWords_5 : decode cX2_findWords 5 = .ok (.iconst 0, 1) := by decide +kernel
theorem dX2_findWords_6 : decode cX2_findWords 6 = .ok (.istore_n 1, 1) := by decide +kernel
theorem dX2_findWords_7 : decode cX2_findWords 7 = .ok (.iload_n 1, 1) := by decide +kernel
theorem dX2_findWords_8 : decode cX2_findWords 8 = .ok (.aload_n 0, 1) := by decide +kernel
theorem dX2_findWords_9 : decode cX2_findWords 9 = .ok (.getfield 22, 3) := by decide +kernel
theorem dX2_findWords_12 : decode cX2_findWords 12 = .ok (.if_icmp .ge 62, 3) := by decide +kernel
theorem dX2_findWords_15 : decode cX2_findWords 15 = .ok (.aload_n 0, 1) := by decide +kernel
theorem dX2_findWords_16 : decode cX2_findWords 16 = .ok (.iload_n 1, 1) := by decide +kernel
theorem dX2_findWords_17 : decode cX2_findWords 17 = .ok (.invokevirtual 35, 3) := by decide +kernel
theorem dX2_findWords_20 : decode cX2_findWords 20 = .ok (.ifCond .eq 48, 3) := by decide +kernel
theorem dX2_findWords_23 : decode cX2_findWords 23 = .ok (.aload_n 0, 1) := by decide +kernel
theorem dX2_findWords_24 : decode cX2_findWords 24 = .ok (.getfield 26, 3) := by decide +kernel
theorem dX2_findWords_27 : decode cX2_findWords 27 = .ok (.bipush 60, 2) := by decide +kernel
theorem dX2_findWords_29 : decode cX2_findWords 29 = .ok (.if_icmp .lt 5, 3) := by decide +kernel
theorem dX2_findWords_32 : decode cX2_findWords 32 = .ok (.iconst 0, 1) := by decide +kernel
theorem dX2_findWords_33 : decode cX2_findWords 33 = .ok (.ireturn, 1) := by decide +kernel
theorem dX2_findWords_34 : decode cX2_findWords 34 = .ok (.aload_n 0, 1) := by decide +kernel
theorem dX2_findWords_35 : decode cX2_findWords 35 = .ok (.getfield 15, 3) := by decide +kernel
theorem dX2_findWords_38 : decode cX2_findWords 38 = .ok (.aload_n 0, 1) := by decide +kernel
theorem dX2_findWords_39 : decode cX2_findWords 39 = .ok (.getfield 26, 3) := by decide +kernel
theorem dX2_findWords_42 : decode cX2_findWords 42 = .ok (.iload_n 1, 1) := by decide +kernel
theorem dX2_findWords_43 : decode cX2_findWords 43 = .ok (.iastore, 1) := by decide +kernel
theorem dX2_findWords_44 : decode cX2_findWords 44 = .ok (.aload_n 0, 1) := by decide +kernel
theorem dX2_findWords_45 : decode cX2_findWords 45 = .ok (.getfield 19, 3) := by decide +kernel
theorem dX2_findWords_48 : decode cX2_findWords 48 = .ok (.aload_n 0, 1) := by decide +kernel
theorem dX2_findWords_49 : decode cX2_findWords 49 = .ok (.getfield 26, 3) := by decide +kernel
theorem dX2_findWords_52 : decode cX2_findWords 52 = .ok (.aload_n 0, 1) := by decide +kernel
theorem dX2_findWords_53 : decode cX2_findWords 53 = .ok (.iload_n 1, 1) := by decide +kernel
theorem dX2_findWords_54 : decode cX2_findWords 54 = .ok (.invokevirtual 39, 3) := by decide +kernel
theorem dX2_findWords_57 : decode cX2_findWords 57 = .ok (.iastore, 1) := by decide +kernel
theorem dX2_findWords_58 : decode cX2_findWords 58 = .ok (.aload_n 0, 1) := by decide +kernel
theorem dX2_findWords_59 : decode cX2_findWords 59 = .ok (.dup, 1) := by decide +kernel
theorem dX2_findWords_60 : decode cX2_findWords 60 = .ok (.getfield 26, 3) := by decide +kernel
theorem dX2_findWords_63 : decode cX2_findWords 63 = .ok (.iconst 1, 1) := by decide +kernel
theorem dX2_findWords_64 : decode cX2_findWords 64 = .ok (.iadd, 1) := by decide +kernel
theorem dX2_findWords_65 : decode cX2_findWords 65 = .ok (.putfield 26, 3) := by decide +kernel
theorem dX2_findWords_68 : decode cX2_findWords 68 = .ok (.iinc 1 1, 3) := by decide +kernel
theorem dX2_findWords_71 : decode cX2_findWords 71 = .ok (.goto (-64), 3) := by decide +kernel
theorem dX2_findWords_74 : decode cX2_findWords 74 = .ok (.iconst 1, 1) := by decide +kernel
theorem dX2_findWords_75 : decode cX2_findWords 75 = .ok (.ireturn, 1) := by decide +kernel
theorem dX2_isMark_0 : decode cX2_isMark 0 = .ok (.aload_n 0, 1) := by decide +kernel
theorem dX2_isMark_1 : decode cX2_isMark 1 = .ok (.getfield 9, 3) := by decide +kernel
theorem dX2_isMark_4 : decode cX2_isMark 4 = .ok (.aload_n 0, 1) := by decide +kernel
theorem dX2_isMark_5 : decode cX2_isMark 5 = .ok (.getfield 15, 3) := by decide +kernel
theorem dX2_isMark_8 : decode cX2_isMark 8 = .ok (.iload_n 1, 1) := by decide +kernel
theorem dX2_isMark_9 : decode cX2_isMark 9 = .ok (.iaload, 1) := by decide +kernel
theorem dX2_isMark_10 : decode cX2_isMark 10 = .ok (.baload, 1) := by decide +kernel
theorem dX2_isMark_11 : decode cX2_isMark 11 = .ok (.bipush 28, 2) := by decide +kernel
theorem dX2_isMark_13 : decode cX2_isMark 13 = .ok (.if_icmp .ne 7, 3) := by decide +kernel
theorem dX2_isMark_16 : decode cX2_isMark 16 = .ok (.iconst 1, 1) := by decide +kernel
theorem dX2_isMark_17 : decode cX2_isMark 17 = .ok (.goto 4, 3) := by decide +kernel
theorem dX2_isMark_20 : decode cX2_isMark 20 = .ok (.iconst 0, 1) := by decide +kernel
theorem dX2_isMark_21 : decode cX2_isMark 21 = .ok (.ireturn, 1) := by decide +kernel
set_option maxRecDepth 100000 in
theorem ggX2_beginsWord_X2_kindOf : GoodIn wsX2_beginsWord wsX2_kindOf := goodIn_r _ [5] (by rfl) (by decide +kernel)
set_option maxRecDepth 20000 in
theorem gX2_beginsWord_X2_kindOf : GoodIn wsX2_beginsWord (va_wsS RX2 43 yX2_kindOf wsX2_kindOf) := goodIn_app (goodIn_of _ (by decide +kernel)) ggX2_beginsWord_X2_kindOf
theorem dX2_beginsWord_0 : decode cX2_beginsWord 0 = .ok (.aload_n 0, 1) := by decide +kernel
theorem dX2_beginsWord_1 : decode cX2_beginsWord 1 = .ok (.getfield 9, 3) := by decide +kernel
theorem dX2_beginsWord_4 : decode cX2_beginsWord 4 = .ok (.iload_n 1, 1) := by decide +kernel
theorem dX2_beginsWord_5 : decode cX2_beginsWord 5 = .ok (.baload, 1) := by decide +kernel
theorem dX2_beginsWord_6 : decode cX2_beginsWord 6 = .ok (.invokestatic 43, 3) := by decide +kernel
theorem dX2_beginsWord_9 : decode cX2_beginsWord 9 = .ok (.istore_n 2, 1) := by decide +kernel
theorem dX2_beginsWord_10 : decode cX2_beginsWord 10 = .ok (.iload_n 2, 1) := by decide +kernel
theorem dX2_beginsWord_11 : decode cX2_beginsWord 11 = .ok (.bipush 29, 2) := by decide +kernel
theorem dX2_beginsWord_13 : decode cX2_beginsWord 13 = .ok (.if_icmp .eq 26, 3) := by decide +kernel
theorem dX2_beginsWord_16 : decode cX2_beginsWord 16 = .ok (.iload_n 1, 1) := by decide +kernel
theorem dX2_beginsWord_17 : decode cX2_beginsWord 17 = .ok (.ifCond .eq 18, 3) := by decide +kernel
theorem dX2_beginsWord_20 : decode cX2_beginsWord 20 = .ok (.aload_n 0, 1) := by decide +kernel
theorem dX2_beginsWord_21 : decode cX2_beginsWord 21 = .ok (.getfield 9, 3) := by decide +kernel
theorem dX2_beginsWord_24 : decode cX2_beginsWord 24 = .ok (.iload_n 1, 1) := by decide +kernel
theorem dX2_beginsWord_25 : decode cX2_beginsWord 25 = .ok (.iconst 1, 1) := by decide +kernel
theorem dX2_beginsWord_26 : decode cX2_beginsWord 26 = .ok (.isub, 1) := by decide +kernel
theorem dX2_beginsWord_27 : decode cX2_beginsWord 27 = .ok (.baload, 1) := by decide +kernel
theorem dX2_beginsWord_28 : decode cX2_beginsWord 28 = .ok (.invokestatic 43, 3) := by decide +kernel
theorem dX2_beginsWord_31 : decode cX2_beginsWord 31 = .ok (.iload_n 2, 1) := by decide +kernel
theorem dX2_beginsWord_32 : decode cX2_beginsWord 32 = .ok (.if_icmp .eq 7, 3) := by decide +kernel
theorem dX2_beginsWord_35 : decode cX2_beginsWord 35 = .ok (.iconst 1, 1) := by decide +kernel
theorem dX2_beginsWord_36 : decode cX2_beginsWord 36 = .ok (.goto 4, 3) := by decide +kernel
theorem dX2_beginsWord_39 : decode cX2_beginsWord 39 = .ok (.iconst 0, 1) := by decide +kernel
theorem dX2_beginsWord_40 : decode cX2_beginsWord 40 = .ok (.ireturn, 1) := by decide +kernel
set_option maxRecDepth 100000 in
theorem ggX2_lengthFrom_X2_kindOf : GoodIn wsX2_lengthFrom wsX2_kindOf := goodIn_r _ [10] (by rfl) (by decide +kernel)
set_option maxRecDepth 20000 in
theorem gX2_lengthFrom_X2_kindOf : GoodIn wsX2_lengthFrom (va_wsS RX2 43 yX2_kindOf wsX2_kindOf) := goodIn_app (goodIn_of _ (by decide +kernel)) ggX2_lengthFrom_X2_kindOf
theorem dX2_lengthFrom_0 : decode cX2_lengthFrom 0 = .ok (.aload_n 0, 1) := by decide +kernel
theorem dX2_lengthFrom_1 : decode cX2_lengthFrom 1 = .ok (.getfield 9, 3) := by decide +kernel
theorem dX2_lengthFrom_4 : decode cX2_lengthFrom 4 = .ok (.iload_n 1, 1) := by decide +kernel
theorem dX2_lengthFrom_5 : decode cX2_lengthFrom 5 = .ok (.baload, 1) := by decide +kernel
theorem dX2_lengthFrom_6 : decode cX2_lengthFrom 6 = .ok (.invokestatic 43, 3) := by decide +kernel
theorem dX2_lengthFrom_9 : decode cX2_lengthFrom 9 = .ok (.istore_n 2, 1) := by decide +kernel
theorem dX2_lengthFrom_10 : decode cX2_lengthFrom 10 = .ok (.iload_n 2, 1) := by decide +kernel
theorem dX2_lengthFrom_11 : decode cX2_lengthFrom 11 = .ok (.bipush 28, 2) := by decide +kernel
theorem dX2_lengthFrom_13 : decode cX2_lengthFrom 13 = .ok (.if_icmp .ne 10, 3) := by decide +kernel
theorem dX2_lengthFrom_16 : decode cX2_lengthFrom 16 = .ok (.aload_n 0, 1) := by decide +kernel
theorem dX2_lengthFrom_17 : decode cX2_lengthFrom 17 = .ok (.getfield 22, 3) := by decide +kernel
theorem dX2_lengthFrom_20 : decode cX2_lengthFrom 20 = .ok (.goto 14, 3) := by decide +kernel
theorem dX2_lengthFrom_23 : decode cX2_lengthFrom 23 = .ok (.aload_n 0, 1) := by decide +kernel
theorem dX2_lengthFrom_24 : decode cX2_lengthFrom 24 = .ok (.getfield 22, 3) := by decide +kernel
theorem dX2_lengthFrom_27 : decode cX2_lengthFrom 27 = .ok (.iload_n 1, 1) := by decide +kernel
theorem dX2_lengthFrom_28 : decode cX2_lengthFrom 28 = .ok (.bipush 24, 2) := by decide +kernel
theorem dX2_lengthFrom_30 : decode cX2_lengthFrom 30 = .ok (.iadd, 1) := by decide +kernel
theorem dX2_lengthFrom_31 : decode cX2_lengthFrom 31 = .ok (.invokestatic 46, 3) := by decide +kernel
theorem dX2_lengthFrom_34 : decode cX2_lengthFrom 34 = .ok (.istore_n 3, 1) := by decide +kernel
theorem dX2_lengthFrom_35 : decode cX2_lengthFrom 35 = .ok (.iload_n 1, 1) := by decide +kernel
theorem dX2_lengthFrom_36 : decode cX2_lengthFrom 36 = .ok (.iconst 1, 1) := by decide +kernel
theorem dX2_lengthFrom_37 : decode cX2_lengthFrom 37 = .ok (.iadd, 1) := by decide +kernel
theorem dX2_lengthFrom_38 : decode cX2_lengthFrom 38 = .ok (.istore 4, 2) := by decide +kernel
theorem dX2_lengthFrom_40 : decode cX2_lengthFrom 40 = .ok (.iload 4, 2) := by decide +kernel
theorem dX2_lengthFrom_42 : decode cX2_lengthFrom 42 = .ok (.iload_n 3, 1) := by decide +kernel
theorem dX2_lengthFrom_43 : decode cX2_lengthFrom 43 = .ok (.if_icmp .ge 23, 3) := by decide +kernel
theorem dX2_lengthFrom_46 : decode cX2_lengthFrom 46 = .ok (.aload_n 0, 1) := by decide +kernel
theorem dX2_lengthFrom_47 : decode cX2_lengthFrom 47 = .ok (.getfield 9, 3) := by decide +kernel
theorem dX2_lengthFrom_50 : decode cX2_lengthFrom 50 = .ok (.iload 4, 2) := by decide +kernel
theorem dX2_lengthFrom_52 : decode cX2_lengthFrom 52 = .ok (.baload, 1) := by decide +kernel
theorem dX2_lengthFrom_53 : decode cX2_lengthFrom 53 = .ok (.invokestatic 43, 3) := by decide +kernel
theorem dX2_lengthFrom_56 : decode cX2_lengthFrom 56 = .ok (.iload_n 2, 1) := by decide +kernel
theorem dX2_lengthFrom_57 : decode cX2_lengthFrom 57 = .ok (.if_icmp .ne 9, 3) := by decide +kernel
theorem dX2_lengthFrom_60 : decode cX2_lengthFrom 60 = .ok (.iinc 4 1, 3) := by decide +kernel
theorem dX2_lengthFrom_63 : decode cX2_lengthFrom 63 = .ok (.goto (-23), 3) := by decide +kernel
theorem dX2_lengthFrom_66 : decode cX2_lengthFrom 66 = .ok (.iload 4, 2) := by decide +kernel
theorem dX2_lengthFrom_68 : decode cX2_lengthFrom 68 = .ok (.iload_n 1, 1) := by decide +kernel
theorem dX2_lengthFrom_69 : decode cX2_lengthFrom 69 = .ok (.isub, 1) := by decide +kernel
theorem dX2_lengthFrom_70 : decode cX2_lengthFrom 70 = .ok (.ireturn, 1) := by decide +kernel
theorem dX2_kindOf_0 : decode cX2_kindOf 0 = .ok (.iload_n 0, 1) := by decide +kernel
theorem dX2_kindOf_1 : decode cX2_kindOf 1 = .ok (.bipush 26, 2) := by decide +kernel
theorem dX2_kindOf_3 : decode cX2_kindOf 3 = .ok (.if_icmp .gt 7, 3) := by decide +kernel
theorem dX2_kindOf_6 : decode cX2_kindOf 6 = .ok (.iconst 0, 1) := by decide +kernel
theorem dX2_kindOf_7 : decode cX2_kindOf 7 = .ok (.goto 4, 3) := by decide +kernel
theorem dX2_kindOf_10 : decode cX2_kindOf 10 = .ok (.iload_n 0, 1) := by decide +kernel
theorem dX2_kindOf_11 : decode cX2_kindOf 11 = .ok (.ireturn, 1) := by decide +kernel
theorem dX3_init_0 : decode cX3_init 0 = .ok (.aload_n 0, 1) := by decide +kernel
theorem dX3_init_1 : decode cX3_init 1 = .ok (.invokespecial 3, 3) := by decide +kernel
theorem dX3_init_4 : decode cX3_init 4 = .ok (.aload_n 0, 1) := by decide +kernel
theorem dX3_init_5 : decode cX3_init 5 = .ok (.bipush 60, 2) := by decide +kernel
theorem dX3_init_7 : decode cX3_init 7 = .ok (.newarray .int, 2) := by decide +kernel
theorem dX3_init_9 : decode cX3_init 9 = .ok (.putfield 9, 3) := by decide +kernel
theorem dX3_init_12 : decode cX3_init 12 = .ok (.aload_n 0, 1) := by decide +kernel
theorem dX3_init_13 : decode cX3_init 13 = .ok (.iconst 0, 1) := by decide +kernel
theorem dX3_init_14 : decode cX3_init 14 = .ok (.putfield 15, 3) := by decide +kernel
theorem dX3_init_17 : decode cX3_init 17 = .ok (.aload_n 0, 1) := by decide +kernel
theorem dX3_init_18 : decode cX3_init 18 = .ok (.bipush 60, 2) := by decide +kernel
theorem dX3_init_20 : decode cX3_init 20 = .ok (.newarray .boolean, 2) := by decide +kernel
theorem dX3_init_22 : decode cX3_init 22 = .ok (.putfield 19, 3) := by decide +kernel
theorem dX3_init_25 : decode cX3_init 25 = .ok (.return_, 1) := by decide +kernel
set_option maxRecDepth 100000 in
theorem ggX3_choose_X3_greatestLeft : GoodIn wsX3_choose wsX3_greatestLeft := goodIn_r _ [7, 1, 2, 8, 9, 6, 10, 11, 18, 19, 20, 21, 22, 23, 24, 25, 26, 27, 28, 29] (by rfl) (by decide +kernel)
set_option maxRecDepth 20000 in
theorem gX3_choose_X3_greatestLeft : GoodIn wsX3_choose (wsV RX3 28 RX3 yX3_greatestLeft wsX3_greatestLeft) := goodIn_app (goodIn_of _ (by decide +kernel)) ggX3_choose_X3_greatestLeft
set_option maxRecDepth 100000 in
theorem ggX3_choose_X3_lessIn : GoodIn wsX3_choose wsX3_lessIn := goodIn_r _ [10, 11, 18, 19, 20, 21, 22, 23, 24, 25, 26] (by rfl) (by decide +kernel)
set_option maxRecDepth 20000 in
theorem gX3_choose_X3_lessIn : GoodIn wsX3_choose (va_wsS RX3 32 yX3_lessIn wsX3_lessIn) := goodIn_app (goodIn_of _ (by decide +kernel)) ggX3_choose_X3_lessIn
set_option maxRecDepth 100000 in
theorem ggX3_choose_X3_keepTaken : GoodIn wsX3_choose wsX3_keepTaken := goodIn_r _ [15, 16, 2, 17, 27, 28, 29] (by rfl) (by decide +kernel)
set_option maxRecDepth 20000 in
theorem gX3_choose_X3_keepTaken : GoodIn wsX3_choose (wsV RX3 36 RX3 yX3_keepTaken wsX3_keepTaken) := goodIn_app (goodIn_of _ (by decide +kernel)) ggX3_choose_X3_keepTaken
theorem dX3_choose_0 : decode cX3_choose 0 = .ok (.iconst 0, 1) := by decide +kernel
theorem dX3_choose_1 : decode cX3_choose 1 = .ok (.istore 5, 2) := by decide +kernel
theorem dX3_choose_3 : decode cX3_choose 3 = .ok (.iload 5, 2) := by decide +kernel
theorem dX3_choose_5 : decode cX3_choose 5 = .ok (.aload_n 1, 1) := by decide +kernel
theorem dX3_choose_6 : decode cX3_choose 6 = .ok (.getfield 23, 3) := by decide +kernel
theorem dX3_choose_9 : decode cX3_choose 9 = .ok (.if_icmp .ge 17, 3) := by decide +kernel
theorem dX3_choose_12 : decode cX3_choose 12 = .ok (.aload_n 0, 1) := by decide +kernel
theorem dX3_choose_13 : decode cX3_choose 13 = .ok (.getfield 19, 3) := by decide +kernel
theorem dX3_choose_16 : decode cX3_choose 16 = .ok (.iload 5, 2) := by decide +kernel
theorem dX3_choose_18 : decode cX3_choose 18 = .ok (.iconst 0, 1) := by decide +kernel
theorem dX3_choose_19 : decode cX3_choose 19 = .ok (.bastore, 1) := by decide +kernel
theorem dX3_choose_20 : decode cX3_choose 20 = .ok (.iinc 5 1, 3) := by decide +kernel
theorem dX3_choose_23 : decode cX3_choose 23 = .ok (.goto (-20), 3) := by decide +kernel
theorem dX3_choose_26 : decode cX3_choose 26 = .ok (.iconst 0, 1) := by decide +kernel
theorem dX3_choose_27 : decode cX3_choose 27 = .ok (.istore 5, 2) := by decide +kernel
theorem dX3_choose_29 : decode cX3_choose 29 = .ok (.iconst 0, 1) := by decide +kernel
theorem dX3_choose_30 : decode cX3_choose 30 = .ok (.istore 6, 2) := by decide +kernel
theorem dX3_choose_32 : decode cX3_choose 32 = .ok (.iload 6, 2) := by decide +kernel
theorem dX3_choose_34 : decode cX3_choose 34 = .ok (.iload 4, 2) := by decide +kernel
theorem dX3_choose_36 : decode cX3_choose 36 = .ok (.if_icmp .ge 57, 3) := by decide +kernel
theorem dX3_choose_39 : decode cX3_choose 39 = .ok (.iload 5, 2) := by decide +kernel
theorem dX3_choose_41 : decode cX3_choose 41 = .ok (.aload_n 1, 1) := by decide +kernel
theorem dX3_choose_42 : decode cX3_choose 42 = .ok (.getfield 23, 3) := by decide +kernel
theorem dX3_choose_45 : decode cX3_choose 45 = .ok (.if_icmp .ge 48, 3) := by decide +kernel
theorem dX3_choose_48 : decode cX3_choose 48 = .ok (.aload_n 0, 1) := by decide +kernel
theorem dX3_choose_49 : decode cX3_choose 49 = .ok (.aload_n 1, 1) := by decide +kernel
theorem dX3_choose_50 : decode cX3_choose 50 = .ok (.iload_n 2, 1) := by decide +kernel
theorem dX3_choose_51 : decode cX3_choose 51 = .ok (.iload_n 3, 1) := by decide +kernel
theorem dX3_choose_52 : decode cX3_choose 52 = .ok (.invokevirtual 28, 3) := by decide +kernel
theorem dX3_choose_55 : decode cX3_choose 55 = .ok (.istore 7, 2) := by decide +kernel
theorem dX3_choose_57 : decode cX3_choose 57 = .ok (.iload 7, 2) := by decide +kernel
theorem dX3_choose_59 : decode cX3_choose 59 = .ok (.iconst (-1), 1) := by decide +kernel
theorem dX3_choose_60 : decode cX3_choose 60 = .ok (.if_icmp .ne 6, 3) := by decide +kernel
theorem dX3_choose_63 : decode cX3_choose 63 = .ok (.bipush (-2), 2) := by decide +kernel
theorem dX3_choose_65 : decode cX3_choose 65 = .ok (.ireturn, 1) := by decide +kernel
theorem dX3_choose_66 : decode cX3_choose 66 = .ok (.aload_n 0, 1) := by decide +kernel
theorem dX3_choose_67 : decode cX3_choose 67 = .ok (.getfield 19, 3) := by decide +kernel
theorem dX3_choose_70 : decode cX3_choose 70 = .ok (.iload 7, 2) := by decide +kernel
theorem dX3_choose_72 : decode cX3_choose 72 = .ok (.iconst 1, 1) := by decide +kernel
theorem dX3_choose_73 : decode cX3_choose 73 = .ok (.bastore, 1) := by decide +kernel
theorem dX3_choose_74 : decode cX3_choose 74 = .ok (.iload 6, 2) := by decide +kernel
theorem dX3_choose_76 : decode cX3_choose 76 = .ok (.aload_n 1, 1) := by decide +kernel
theorem dX3_choose_77 : decode cX3_choose 77 = .ok (.iload_n 2, 1) := by decide +kernel
theorem dX3_choose_78 : decode cX3_choose 78 = .ok (.iload_n 3, 1) := by decide +kernel
theorem dX3_choose_79 : decode cX3_choose 79 = .ok (.iload 7, 2) := by decide +kernel
theorem dX3_choose_81 : decode cX3_choose 81 = .ok (.invokestatic 32, 3) := by decide +kernel
theorem dX3_choose_84 : decode cX3_choose 84 = .ok (.iadd, 1) := by decide +kernel
theorem dX3_choose_85 : decode cX3_choose 85 = .ok (.istore 6, 2) := by decide +kernel
theorem dX3_choose_87 : decode cX3_choose 87 = .ok (.iinc 5 1, 3) := by decide +kernel
theorem dX3_choose_90 : decode cX3_choose 90 = .ok (.goto (-58), 3) := by decide +kernel
theorem dX3_choose_93 : decode cX3_choose 93 = .ok (.iload 6, 2) := by decide +kernel
theorem dX3_choose_95 : decode cX3_choose 95 = .ok (.iload 4, 2) := by decide +kernel
theorem dX3_choose_97 : decode cX3_choose 97 = .ok (.if_icmp .ge 6, 3) := by decide +kernel
theorem dX3_choose_100 : decode cX3_choose 100 = .ok (.bipush (-2), 2) := by decide +kernel
theorem dX3_choose_102 : decode cX3_choose 102 = .ok (.ireturn, 1) := by decide +kernel
theorem dX3_choose_103 : decode cX3_choose 103 = .ok (.aload_n 0, 1) := by decide +kernel
theorem dX3_choose_104 : decode cX3_choose 104 = .ok (.aload_n 1, 1) := by decide +kernel
theorem dX3_choose_105 : decode cX3_choose 105 = .ok (.getfield 23, 3) := by decide +kernel
theorem dX3_choose_108 : decode cX3_choose 108 = .ok (.invokevirtual 36, 3) := by decide +kernel
theorem dX3_choose_111 : decode cX3_choose 111 = .ok (.iload 5, 2) := by decide +kernel
theorem dX3_choose_113 : decode cX3_choose 113 = .ok (.ireturn, 1) := by decide +kernel
set_option maxRecDepth 100000 in
theorem ggX3_greatestLeft_X3_lessIn : GoodIn wsX3_greatestLeft wsX3_lessIn := goodIn_r _ [6, 7, 8, 9, 10, 11, 12, 13, 14, 15, 16] (by rfl) (by decide +kernel)
set_option maxRecDepth 20000 in
theorem gX3_greatestLeft_X3_lessIn : GoodIn wsX3_greatestLeft (va_wsS RX3 32 yX3_lessIn wsX3_lessIn) := goodIn_app (goodIn_of _ (by decide +kernel)) ggX3_greatestLeft_X3_lessIn
theorem dX3_greatestLeft_0 : decode cX3_greatestLeft 0 = .ok (.iconst (-1), 1) := by decide +kernel
theorem dX3_greatestLeft_1 : decode cX3_greatestLeft 1 = .ok (.istore 4, 2) := by decide +kernel
theorem dX3_greatestLeft_3 : decode cX3_greatestLeft 3 = .ok (.iconst 0, 1) := by decide +kernel
theorem dX3_greatestLeft_4 : decode cX3_greatestLeft 4 = .ok (.istore 5, 2) := by decide +kernel
theorem dX3_greatestLeft_6 : decode cX3_greatestLeft 6 = .ok (.iconst 0, 1) := by decide +kernel
theorem dX3_greatestLeft_7 : decode cX3_greatestLeft 7 = .ok (.istore 6, 2) := by decide +kernel
theorem dX3_greatestLeft_9 : decode cX3_greatestLeft 9 = .ok (.iload 6, 2) := by decide +kernel
theorem dX3_greatestLeft_11 : decode cX3_greatestLeft 11 = .ok (.aload_n 1, 1) := by decide +kernel
theorem dX3_greatestLeft_12 : decode cX3_greatestLeft 12 = .ok (.getfield 23, 3) := by decide +kernel
theorem dX3_greatestLeft_15 : decode cX3_greatestLeft 15 = .ok (.if_icmp .ge 44, 3) := by decide +kernel
theorem dX3_greatestLeft_18 : decode cX3_greatestLeft 18 = .ok (.aload_n 1, 1) := by decide +kernel
theorem dX3_greatestLeft_19 : decode cX3_greatestLeft 19 = .ok (.iload_n 2, 1) := by decide +kernel
theorem dX3_greatestLeft_20 : decode cX3_greatestLeft 20 = .ok (.iload_n 3, 1) := by decide +kernel
theorem dX3_greatestLeft_21 : decode cX3_greatestLeft 21 = .ok (.iload 6, 2) := by decide +kernel
theorem dX3_greatestLeft_23 : decode cX3_greatestLeft 23 = .ok (.invokestatic 32, 3) := by decide +kernel
theorem dX3_greatestLeft_26 : decode cX3_greatestLeft 26 = .ok (.istore 7, 2) := by decide +kernel
theorem dX3_greatestLeft_28 : decode cX3_greatestLeft 28 = .ok (.aload_n 0, 1) := by decide +kernel
theorem dX3_greatestLeft_29 : decode cX3_greatestLeft 29 = .ok (.getfield 19, 3) := by decide +kernel
theorem dX3_greatestLeft_32 : decode cX3_greatestLeft 32 = .ok (.iload 6, 2) := by decide +kernel
theorem dX3_greatestLeft_34 : decode cX3_greatestLeft 34 = .ok (.baload, 1) := by decide +kernel
theorem dX3_greatestLeft_35 : decode cX3_greatestLeft 35 = .ok (.ifCond .ne 18, 3) := by decide +kernel
theorem dX3_greatestLeft_38 : decode cX3_greatestLeft 38 = .ok (.iload 7, 2) := by decide +kernel
theorem dX3_greatestLeft_40 : decode cX3_greatestLeft 40 = .ok (.iload 5, 2) := by decide +kernel
theorem dX3_greatestLeft_42 : decode cX3_greatestLeft 42 = .ok (.if_icmp .le 11, 3) := by decide +kernel
theorem dX3_greatestLeft_45 : decode cX3_greatestLeft 45 = .ok (.iload 7, 2) := by decide +kernel
theorem dX3_greatestLeft_47 : decode cX3_greatestLeft 47 = .ok (.istore 5, 2) := by decide +kernel
theorem dX3_greatestLeft_49 : decode cX3_greatestLeft 49 = .ok (.iload 6, 2) := by decide +kernel
theorem dX3_greatestLeft_51 : decode cX3_greatestLeft 51 = .ok (.istore 4, 2) := by decide +kernel
theorem dX3_greatestLeft_53 : decode cX3_greatestLeft 53 = .ok (.iinc 6 1, 3) := by decide +kernel
theorem dX3_greatestLeft_56 : decode cX3_greatestLeft 56 = .ok (.goto (-47), 3) := by decide +kernel
theorem dX3_greatestLeft_59 : decode cX3_greatestLeft 59 = .ok (.iload 4, 2) := by decide +kernel
theorem dX3_greatestLeft_61 : decode cX3_greatestLeft 61 = .ok (.ireturn, 1) := by decide +kernel
theorem dX3_lessIn_0 : decode cX3_lessIn 0 = .ok (.aload_n 0, 1) := by decide +kernel
theorem dX3_lessIn_1 : decode cX3_lessIn 1 = .ok (.getfield 40, 3) := by decide +kernel
theorem dX3_lessIn_4 : decode cX3_lessIn 4 = .ok (.iload_n 3, 1) := by decide +kernel
theorem dX3_lessIn_5 : decode cX3_lessIn 5 = .ok (.bipush 8, 2) := by decide +kernel
theorem dX3_lessIn_7 : decode cX3_lessIn 7 = .ok (.imul, 1) := by decide +kernel
theorem dX3_lessIn_8 : decode cX3_lessIn 8 = .ok (.iload_n 2, 1) := by decide +kernel
theorem dX3_lessIn_9 : decode cX3_lessIn 9 = .ok (.iadd, 1) := by decide +kernel
theorem dX3_lessIn_10 : decode cX3_lessIn 10 = .ok (.iaload, 1) := by decide +kernel
theorem dX3_lessIn_11 : decode cX3_lessIn 11 = .ok (.aload_n 0, 1) := by decide +kernel
theorem dX3_lessIn_12 : decode cX3_lessIn 12 = .ok (.getfield 40, 3) := by decide +kernel
theorem dX3_lessIn_15 : decode cX3_lessIn 15 = .ok (.iload_n 3, 1) := by decide +kernel
theorem dX3_lessIn_16 : decode cX3_lessIn 16 = .ok (.bipush 8, 2) := by decide +kernel
theorem dX3_lessIn_18 : decode cX3_lessIn 18 = .ok (.imul, 1) := by decide +kernel
theorem dX3_lessIn_19 : decode cX3_lessIn 19 = .ok (.iload_n 1, 1) := by decide +kernel
theorem dX3_lessIn_20 : decode cX3_lessIn 20 = .ok (.iadd, 1) := by decide +kernel
theorem dX3_lessIn_21 : decode cX3_lessIn 21 = .ok (.iaload, 1) := by decide +kernel
theorem dX3_lessIn_22 : decode cX3_lessIn 22 = .ok (.isub, 1) := by decide +kernel
theorem dX3_lessIn_23 : decode cX3_lessIn 23 = .ok (.ireturn, 1) := by decide +kernel
theorem dX3_keepTaken_0 : decode cX3_keepTaken 0 = .ok (.aload_n 0, 1) := by decide +kernel
theorem dX3_keepTaken_1 : decode cX3_keepTaken 1 = .ok (.iconst 0, 1) := by decide +kernel
theorem dX3_keepTaken_2 : decode cX3_keepTaken 2 = .ok (.putfield 15, 3) := by decide +kernel
theorem dX3_keepTaken_5 : decode cX3_keepTaken 5 = .ok (.iconst 0, 1) := by decide +kernel
theorem dX3_keepTaken_6 : decode cX3_keepTaken 6 = .ok (.istore_n 2, 1) := by decide +kernel
theorem dX3_keepTaken_7 : decode cX3_keepTaken 7 = .ok (.iload_n 2, 1) := by decide +kernel
theorem dX3_keepTaken_8 : decode cX3_keepTaken 8 = .ok (.iload_n 1, 1) := by decide +kernel
theorem dX3_keepTaken_9 : decode cX3_keepTaken 9 = .ok (.if_icmp .ge 38, 3) := by decide +kernel
theorem dX3_keepTaken_12 : decode cX3_keepTaken 12 = .ok (.aload_n 0, 1) := by decide +kernel
theorem dX3_keepTaken_13 : decode cX3_keepTaken 13 = .ok (.getfield 19, 3) := by decide +kernel
theorem dX3_keepTaken_16 : decode cX3_keepTaken 16 = .ok (.iload_n 2, 1) := by decide +kernel
theorem dX3_keepTaken_17 : decode cX3_keepTaken 17 = .ok (.baload, 1) := by decide +kernel
theorem dX3_keepTaken_18 : decode cX3_keepTaken 18 = .ok (.ifCond .eq 23, 3) := by decide +kernel
theorem dX3_keepTaken_21 : decode cX3_keepTaken 21 = .ok (.aload_n 0, 1) := by decide +kernel
theorem dX3_keepTaken_22 : decode cX3_keepTaken 22 = .ok (.getfield 9, 3) := by decide +kernel
theorem dX3_keepTaken_25 : decode cX3_keepTaken 25 = .ok (.aload_n 0, 1) := by decide +kernel
theorem dX3_keepTaken_26 : decode cX3_keepTaken 26 = .ok (.getfield 15, 3) := by decide +kernel
theorem dX3_keepTaken_29 : decode cX3_keepTaken 29 = .ok (.iload_n 2, 1) := by decide +kernel
theorem dX3_keepTaken_30 : decode cX3_keepTaken 30 = .ok (.iastore, 1) := by decide +kernel
theorem dX3_keepTaken_31 : decode cX3_keepTaken 31 = .ok (.aload_n 0, 1) := by decide +kernel
theorem dX3_keepTaken_32 : decode cX3_keepTaken 32 = .ok (.dup, 1) := by decide +kernel
theorem dX3_keepTaken_33 : decode cX3_keepTaken 33 = .ok (.getfield 15, 3) := by decide +kernel
theorem dX3_keepTaken_36 : decode cX3_keepTaken 36 = .ok (.iconst 1, 1) := by decide +kernel
theorem dX3_keepTaken_37 : decode cX3_keepTaken 37 = .ok (.iadd, 1) := by decide +kernel
theorem dX3_keepTaken_38 : decode cX3_keepTaken 38 = .ok (.putfield 15, 3) := by decide +kernel
theorem dX3_keepTaken_41 : decode cX3_keepTaken 41 = .ok (.iinc 2 1, 3) := by decide +kernel
theorem dX3_keepTaken_44 : decode cX3_keepTaken 44 = .ok (.goto (-37), 3) := by decide +kernel
theorem dX3_keepTaken_47 : decode cX3_keepTaken 47 = .ok (.return_, 1) := by decide +kernel
theorem dX4_init_0 : decode cX4_init 0 = .ok (.aload_n 0, 1) := by decide +kernel
theorem dX4_init_1 : decode cX4_init 1 = .ok (.invokespecial 3, 3) := by decide +kernel
theorem dX4_init_4 : decode cX4_init 4 = .ok (.aload_n 0, 1) := by decide +kernel
theorem dX4_init_5 : decode cX4_init 5 = .ok (.sipush 6272, 3) := by decide +kernel
theorem dX4_init_8 : decode cX4_init 8 = .ok (.newarray .int, 2) := by decide +kernel
theorem dX4_init_10 : decode cX4_init 10 = .ok (.putfield 9, 3) := by decide +kernel
theorem dX4_init_13 : decode cX4_init 13 = .ok (.aload_n 0, 1) := by decide +kernel
theorem dX4_init_14 : decode cX4_init 14 = .ok (.iconst 0, 1) := by decide +kernel
theorem dX4_init_15 : decode cX4_init 15 = .ok (.putfield 15, 3) := by decide +kernel
theorem dX4_init_18 : decode cX4_init 18 = .ok (.return_, 1) := by decide +kernel
theorem dX4_has_0 : decode cX4_has 0 = .ok (.iload_n 1, 1) := by decide +kernel
theorem dX4_has_1 : decode cX4_has 1 = .ok (.ifCond .lt 15, 3) := by decide +kernel
theorem dX4_has_4 : decode cX4_has 4 = .ok (.iload_n 1, 1) := by decide +kernel
theorem dX4_has_5 : decode cX4_has 5 = .ok (.aload_n 0, 1) := by decide +kernel
theorem dX4_has_6 : decode cX4_has 6 = .ok (.getfield 15, 3) := by decide +kernel
theorem dX4_has_9 : decode cX4_has 9 = .ok (.if_icmp .ge 7, 3) := by decide +kernel
theorem dX4_has_12 : decode cX4_has 12 = .ok (.iconst 1, 1) := by decide +kernel
theorem dX4_has_13 : decode cX4_has 13 = .ok (.goto 4, 3) := by decide +kernel
theorem dX4_has_16 : decode cX4_has 16 = .ok (.iconst 0, 1) := by decide +kernel
theorem dX4_has_17 : decode cX4_has 17 = .ok (.ireturn, 1) := by decide +kernel
theorem dX4_counted_0 : decode cX4_counted 0 = .ok (.aload_n 0, 1) := by decide +kernel
theorem dX4_counted_1 : decode cX4_counted 1 = .ok (.getfield 9, 3) := by decide +kernel
theorem dX4_counted_4 : decode cX4_counted 4 = .ok (.iload_n 1, 1) := by decide +kernel
theorem dX4_counted_5 : decode cX4_counted 5 = .ok (.bipush 28, 2) := by decide +kernel
theorem dX4_counted_7 : decode cX4_counted 7 = .ok (.imul, 1) := by decide +kernel
theorem dX4_counted_8 : decode cX4_counted 8 = .ok (.iload_n 2, 1) := by decide +kernel
theorem dX4_counted_9 : decode cX4_counted 9 = .ok (.iadd, 1) := by decide +kernel
theorem dX4_counted_10 : decode cX4_counted 10 = .ok (.bipush 28, 2) := by decide +kernel
theorem dX4_counted_12 : decode cX4_counted 12 = .ok (.imul, 1) := by decide +kernel
theorem dX4_counted_13 : decode cX4_counted 13 = .ok (.iload_n 3, 1) := by decide +kernel
theorem dX4_counted_14 : decode cX4_counted 14 = .ok (.iadd, 1) := by decide +kernel
theorem dX4_counted_15 : decode cX4_counted 15 = .ok (.iaload, 1) := by decide +kernel
theorem dX4_counted_16 : decode cX4_counted 16 = .ok (.ireturn, 1) := by decide +kernel
theorem dX4_countTrail_0 : decode cX4_countTrail 0 = .ok (.iconst 1, 1) := by decide +kernel
theorem dX4_countTrail_1 : decode cX4_countTrail 1 = .ok (.istore 4, 2) := by decide +kernel
theorem dX4_countTrail_3 : decode cX4_countTrail 3 = .ok (.iload 4, 2) := by decide +kernel
theorem dX4_countTrail_5 : decode cX4_countTrail 5 = .ok (.aload_n 2, 1) := by decide +kernel
theorem dX4_countTrail_6 : decode cX4_countTrail 6 = .ok (.arraylength, 1) := by decide +kernel
theorem dX4_countTrail_7 : decode cX4_countTrail 7 = .ok (.if_icmp .ge 37, 3) := by decide +kernel
theorem dX4_countTrail_10 : decode cX4_countTrail 10 = .ok (.aload_n 0, 1) := by decide +kernel
theorem dX4_countTrail_11 : decode cX4_countTrail 11 = .ok (.getfield 9, 3) := by decide +kernel
theorem dX4_countTrail_14 : decode cX4_countTrail 14 = .ok (.iload_n 1, 1) := by decide +kernel
theorem dX4_countTrail_15 : decode cX4_countTrail 15 = .ok (.bipush 28, 2) := by decide +kernel
theorem dX4_countTrail_17 : decode cX4_countTrail 17 = .ok (.imul, 1) := by decide +kernel
theorem dX4_countTrail_18 : decode cX4_countTrail 18 = .ok (.aload_n 2, 1) := by decide +kernel
theorem dX4_countTrail_19 : decode cX4_countTrail 19 = .ok (.iload 4, 2) := by decide +kernel
theorem dX4_countTrail_21 : decode cX4_countTrail 21 = .ok (.iconst 1, 1) := by decide +kernel
theorem dX4_countTrail_22 : decode cX4_countTrail 22 = .ok (.isub, 1) := by decide +kernel
theorem dX4_countTrail_23 : decode cX4_countTrail 23 = .ok (.baload, 1) := by decide +kernel
theorem dX4_countTrail_24 : decode cX4_countTrail 24 = .ok (.iadd, 1) := by decide +kernel
theorem dX4_countTrail_25 : decode cX4_countTrail 25 = .ok (.bipush 28, 2) := by decide +kernel
theorem dX4_countTrail_27 : decode cX4_countTrail 27 = .ok (.imul, 1) := by decide +kernel
theorem dX4_countTrail_28 : decode cX4_countTrail 28 = .ok (.aload_n 2, 1) := by decide +kernel
theorem dX4_countTrail_29 : decode cX4_countTrail 29 = .ok (.iload 4, 2) := by decide +kernel
theorem dX4_countTrail_31 : decode cX4_countTrail 31 = .ok (.baload, 1) := by decide +kernel
theorem dX4_countTrail_32 : decode cX4_countTrail 32 = .ok (.iadd, 1) := by decide +kernel
theorem dX4_countTrail_33 : decode cX4_countTrail 33 = .ok (.dup2, 1) := by decide +kernel
theorem dX4_countTrail_34 : decode cX4_countTrail 34 = .ok (.iaload, 1) := by decide +kernel
theorem dX4_countTrail_35 : decode cX4_countTrail 35 = .ok (.iload_n 3, 1) := by decide +kernel
theorem dX4_countTrail_36 : decode cX4_countTrail 36 = .ok (.iadd, 1) := by decide +kernel
theorem dX4_countTrail_37 : decode cX4_countTrail 37 = .ok (.iastore, 1) := by decide +kernel
theorem dX4_countTrail_38 : decode cX4_countTrail 38 = .ok (.iinc 4 1, 3) := by decide +kernel
theorem dX4_countTrail_41 : decode cX4_countTrail 41 = .ok (.goto (-38), 3) := by decide +kernel
theorem dX4_countTrail_44 : decode cX4_countTrail 44 = .ok (.return_, 1) := by decide +kernel
set_option maxRecDepth 100000 in
theorem ggX4_costOfSpelling_X4_costOfPair : GoodIn wsX4_costOfSpelling wsX4_costOfPair := goodIn_r _ [8, 9, 10, 11, 7, 12, 13, 19, 20] (by rfl) (by decide +kernel)
set_option maxRecDepth 20000 in
theorem gX4_costOfSpelling_X4_costOfPair : GoodIn wsX4_costOfSpelling (wsV RX4 31 RX4 yX4_costOfPair wsX4_costOfPair) := goodIn_app (goodIn_of _ (by decide +kernel)) ggX4_costOfSpelling_X4_costOfPair
theorem dX4_costOfSpelling_0 : decode cX4_costOfSpelling 0 = .ok (.iconst 0, 1) := by decide +kernel
theorem dX4_costOfSpelling_1 : decode cX4_costOfSpelling 1 = .ok (.istore 4, 2) := by decide +kernel
theorem dX4_costOfSpelling_3 : decode cX4_costOfSpelling 3 = .ok (.bipush 27, 2) := by decide +kernel
theorem dX4_costOfSpelling_5 : decode cX4_costOfSpelling 5 = .ok (.istore 5, 2) := by decide +kernel
theorem dX4_costOfSpelling_7 : decode cX4_costOfSpelling 7 = .ok (.aload_n 2, 1) := by decide +kernel
theorem dX4_costOfSpelling_8 : decode cX4_costOfSpelling 8 = .ok (.getfield 19, 3) := by decide +kernel
theorem dX4_costOfSpelling_11 : decode cX4_costOfSpelling 11 = .ok (.iload_n 3, 1) := by decide +kernel
theorem dX4_costOfSpelling_12 : decode cX4_costOfSpelling 12 = .ok (.iaload, 1) := by decide +kernel
theorem dX4_costOfSpelling_13 : decode cX4_costOfSpelling 13 = .ok (.aload_n 2, 1) := by decide +kernel
theorem dX4_costOfSpelling_14 : decode cX4_costOfSpelling 14 = .ok (.getfield 24, 3) := by decide +kernel
theorem dX4_costOfSpelling_17 : decode cX4_costOfSpelling 17 = .ok (.iload_n 3, 1) := by decide +kernel
theorem dX4_costOfSpelling_18 : decode cX4_costOfSpelling 18 = .ok (.iaload, 1) := by decide +kernel
theorem dX4_costOfSpelling_19 : decode cX4_costOfSpelling 19 = .ok (.iadd, 1) := by decide +kernel
theorem dX4_costOfSpelling_20 : decode cX4_costOfSpelling 20 = .ok (.istore 6, 2) := by decide +kernel
theorem dX4_costOfSpelling_22 : decode cX4_costOfSpelling 22 = .ok (.aload_n 2, 1) := by decide +kernel
theorem dX4_costOfSpelling_23 : decode cX4_costOfSpelling 23 = .ok (.getfield 19, 3) := by decide +kernel
theorem dX4_costOfSpelling_26 : decode cX4_costOfSpelling 26 = .ok (.iload_n 3, 1) := by decide +kernel
theorem dX4_costOfSpelling_27 : decode cX4_costOfSpelling 27 = .ok (.iaload, 1) := by decide +kernel
theorem dX4_costOfSpelling_28 : decode cX4_costOfSpelling 28 = .ok (.istore 7, 2) := by decide +kernel
theorem dX4_costOfSpelling_30 : decode cX4_costOfSpelling 30 = .ok (.iload 7, 2) := by decide +kernel
theorem dX4_costOfSpelling_32 : decode cX4_costOfSpelling 32 = .ok (.iload 6, 2) := by decide +kernel
theorem dX4_costOfSpelling_34 : decode cX4_costOfSpelling 34 = .ok (.if_icmp .ge 37, 3) := by decide +kernel
theorem dX4_costOfSpelling_37 : decode cX4_costOfSpelling 37 = .ok (.iload 4, 2) := by decide +kernel
theorem dX4_costOfSpelling_39 : decode cX4_costOfSpelling 39 = .ok (.aload_n 0, 1) := by decide +kernel
theorem dX4_costOfSpelling_40 : decode cX4_costOfSpelling 40 = .ok (.iload_n 1, 1) := by decide +kernel
theorem dX4_costOfSpelling_41 : decode cX4_costOfSpelling 41 = .ok (.iload 5, 2) := by decide +kernel
theorem dX4_costOfSpelling_43 : decode cX4_costOfSpelling 43 = .ok (.aload_n 2, 1) := by decide +kernel
theorem dX4_costOfSpelling_44 : decode cX4_costOfSpelling 44 = .ok (.getfield 27, 3) := by decide +kernel
theorem dX4_costOfSpelling_47 : decode cX4_costOfSpelling 47 = .ok (.iload 7, 2) := by decide +kernel
theorem dX4_costOfSpelling_49 : decode cX4_costOfSpelling 49 = .ok (.baload, 1) := by decide +kernel
theorem dX4_costOfSpelling_50 : decode cX4_costOfSpelling 50 = .ok (.invokevirtual 31, 3) := by decide +kernel
theorem dX4_costOfSpelling_53 : decode cX4_costOfSpelling 53 = .ok (.iadd, 1) := by decide +kernel
theorem dX4_costOfSpelling_54 : decode cX4_costOfSpelling 54 = .ok (.istore 4, 2) := by decide +kernel
theorem dX4_costOfSpelling_56 : decode cX4_costOfSpelling 56 = .ok (.aload_n 2, 1) := by decide +kernel
theorem dX4_costOfSpelling_57 : decode cX4_costOfSpelling 57 = .ok (.getfield 27, 3) := by decide +kernel
theorem dX4_costOfSpelling_60 : decode cX4_costOfSpelling 60 = .ok (.iload 7, 2) := by decide +kernel
theorem dX4_costOfSpelling_62 : decode cX4_costOfSpelling 62 = .ok (.baload, 1) := by decide +kernel
theorem dX4_costOfSpelling_63 : decode cX4_costOfSpelling 63 = .ok (.istore 5, 2) := by decide +kernel
theorem dX4_costOfSpelling_65 : decode cX4_costOfSpelling 65 = .ok (.iinc 7 1, 3) := by decide +kernel
theorem dX4_costOfSpelling_68 : decode cX4_costOfSpelling 68 = .ok (.goto (-38), 3) := by decide +kernel
theorem dX4_costOfSpelling_71 : decode cX4_costOfSpelling 71 = .ok (.iload 4, 2) := by decide +kernel
theorem dX4_costOfSpelling_73 : decode cX4_costOfSpelling 73 = .ok (.aload_n 0, 1) := by decide +kernel
theorem dX4_costOfSpelling_74 : decode cX4_costOfSpelling 74 = .ok (.iload_n 1, 1) := by decide +kernel
theorem dX4_costOfSpelling_75 : decode cX4_costOfSpelling 75 = .ok (.iload 5, 2) := by decide +kernel
theorem dX4_costOfSpelling_77 : decode cX4_costOfSpelling 77 = .ok (.bipush 27, 2) := by decide +kernel
theorem dX4_costOfSpelling_79 : decode cX4_costOfSpelling 79 = .ok (.invokevirtual 31, 3) := by decide +kernel
theorem dX4_costOfSpelling_82 : decode cX4_costOfSpelling 82 = .ok (.iadd, 1) := by decide +kernel
theorem dX4_costOfSpelling_83 : decode cX4_costOfSpelling 83 = .ok (.ireturn, 1) := by decide +kernel
set_option maxRecDepth 100000 in
theorem ggX4_costOfPair_X4_counted : GoodIn wsX4_costOfPair wsX4_counted := goodIn_r _ [5, 6, 7, 8] (by rfl) (by decide +kernel)
set_option maxRecDepth 20000 in
theorem gX4_costOfPair_X4_counted : GoodIn wsX4_costOfPair (wsV RX4 35 RX4 yX4_counted wsX4_counted) := goodIn_app (goodIn_of _ (by decide +kernel)) ggX4_costOfPair_X4_counted
theorem dX4_costOfPair_0 : decode cX4_costOfPair 0 = .ok (.bipush 100, 2) := by decide +kernel
theorem dX4_costOfPair_2 : decode cX4_costOfPair 2 = .ok (.istore 4, 2) := by decide +kernel
theorem dX4_costOfPair_4 : decode cX4_costOfPair 4 = .ok (.aload_n 0, 1) := by decide +kernel
theorem dX4_costOfPair_5 : decode cX4_costOfPair 5 = .ok (.iload_n 1, 1) := by decide +kernel
theorem dX4_costOfPair_6 : decode cX4_costOfPair 6 = .ok (.iload_n 2, 1) := by decide +kernel
theorem dX4_costOfPair_7 : decode cX4_costOfPair 7 = .ok (.iload_n 3, 1) := by decide +kernel
theorem dX4_costOfPair_8 : decode cX4_costOfPair 8 = .ok (.invokevirtual 35, 3) := by decide +kernel
theorem dX4_costOfPair_11 : decode cX4_costOfPair 11 = .ok (.istore 5, 2) := by decide +kernel
theorem dX4_costOfPair_13 : decode cX4_costOfPair 13 = .ok (.iload 5, 2) := by decide +kernel
theorem dX4_costOfPair_15 : decode cX4_costOfPair 15 = .ok (.ifCond .le 20, 3) := by decide +kernel
theorem dX4_costOfPair_18 : decode cX4_costOfPair 18 = .ok (.iload 4, 2) := by decide +kernel
theorem dX4_costOfPair_20 : decode cX4_costOfPair 20 = .ok (.ifCond .le 15, 3) := by decide +kernel
theorem dX4_costOfPair_23 : decode cX4_costOfPair 23 = .ok (.iinc 4 (-20), 3) := by decide +kernel
theorem dX4_costOfPair_26 : decode cX4_costOfPair 26 = .ok (.iload 5, 2) := by decide +kernel
theorem dX4_costOfPair_28 : decode cX4_costOfPair 28 = .ok (.iconst 1, 1) := by decide +kernel
theorem dX4_costOfPair_29 : decode cX4_costOfPair 29 = .ok (.ishr, 1) := by decide +kernel
theorem dX4_costOfPair_30 : decode cX4_costOfPair 30 = .ok (.istore 5, 2) := by decide +kernel
theorem dX4_costOfPair_32 : decode cX4_costOfPair 32 = .ok (.goto (-19), 3) := by decide +kernel
theorem dX4_costOfPair_35 : decode cX4_costOfPair 35 = .ok (.iload 4, 2) := by decide +kernel
theorem dX4_costOfPair_37 : decode cX4_costOfPair 37 = .ok (.ireturn, 1) := by decide +kernel
theorem dX5_init_0 : decode cX5_init 0 = .ok (.aload_n 0, 1) := by decide +kernel
theorem dX5_init_1 : decode cX5_init 1 = .ok (.invokespecial 3, 3) := by decide +kernel
theorem dX5_init_4 : decode cX5_init 4 = .ok (.aload_n 0, 1) := by decide +kernel
theorem dX5_init_5 : decode cX5_init 5 = .ok (.sipush 480, 3) := by decide +kernel
theorem dX5_init_8 : decode cX5_init 8 = .ok (.newarray .int, 2) := by decide +kernel
theorem dX5_init_10 : decode cX5_init 10 = .ok (.putfield 9, 3) := by decide +kernel
theorem dX5_init_13 : decode cX5_init 13 = .ok (.aload_n 0, 1) := by decide +kernel
theorem dX5_init_14 : decode cX5_init 14 = .ok (.sipush 480, 3) := by decide +kernel
theorem dX5_init_17 : decode cX5_init 17 = .ok (.newarray .int, 2) := by decide +kernel
theorem dX5_init_19 : decode cX5_init 19 = .ok (.putfield 15, 3) := by decide +kernel
theorem dX5_init_22 : decode cX5_init 22 = .ok (.aload_n 0, 1) := by decide +kernel
theorem dX5_init_23 : decode cX5_init 23 = .ok (.bipush 60, 2) := by decide +kernel
theorem dX5_init_25 : decode cX5_init 25 = .ok (.newarray .int, 2) := by decide +kernel
theorem dX5_init_27 : decode cX5_init 27 = .ok (.putfield 18, 3) := by decide +kernel
theorem dX5_init_30 : decode cX5_init 30 = .ok (.aload_n 0, 1) := by decide +kernel
theorem dX5_init_31 : decode cX5_init 31 = .ok (.bipush 60, 2) := by decide +kernel
theorem dX5_init_33 : decode cX5_init 33 = .ok (.newarray .int, 2) := by decide +kernel
theorem dX5_init_35 : decode cX5_init 35 = .ok (.putfield 21, 3) := by decide +kernel
theorem dX5_init_38 : decode cX5_init 38 = .ok (.aload_n 0, 1) := by decide +kernel
theorem dX5_init_39 : decode cX5_init 39 = .ok (.iconst 0, 1) := by decide +kernel
theorem dX5_init_40 : decode cX5_init 40 = .ok (.putfield 24, 3) := by decide +kernel
theorem dX5_init_43 : decode cX5_init 43 = .ok (.aload_n 0, 1) := by decide +kernel
theorem dX5_init_44 : decode cX5_init 44 = .ok (.iconst 0, 1) := by decide +kernel
theorem dX5_init_45 : decode cX5_init 45 = .ok (.putfield 28, 3) := by decide +kernel
theorem dX5_init_48 : decode cX5_init 48 = .ok (.aload_n 0, 1) := by decide +kernel
theorem dX5_init_49 : decode cX5_init 49 = .ok (.iconst 0, 1) := by decide +kernel
theorem dX5_init_50 : decode cX5_init 50 = .ok (.putfield 31, 3) := by decide +kernel
theorem dX5_init_53 : decode cX5_init 53 = .ok (.aload_n 0, 1) := by decide +kernel
theorem dX5_init_54 : decode cX5_init 54 = .ok (.iconst (-1), 1) := by decide +kernel
theorem dX5_init_55 : decode cX5_init 55 = .ok (.putfield 34, 3) := by decide +kernel
theorem dX5_init_58 : decode cX5_init 58 = .ok (.aload_n 0, 1) := by decide +kernel
theorem dX5_init_59 : decode cX5_init 59 = .ok (.iconst 0, 1) := by decide +kernel
theorem dX5_init_60 : decode cX5_init 60 = .ok (.putfield 37, 3) := by decide +kernel
theorem dX5_init_63 : decode cX5_init 63 = .ok (.return_, 1) := by decide +kernel
theorem dX5_begin_0 : decode cX5_begin 0 = .ok (.aload_n 0, 1) := by decide +kernel
theorem dX5_begin_1 : decode cX5_begin 1 = .ok (.iload_n 1, 1) := by decide +kernel
theorem dX5_begin_2 : decode cX5_begin 2 = .ok (.putfield 24, 3) := by decide +kernel
theorem dX5_begin_5 : decode cX5_begin 5 = .ok (.aload_n 0, 1) := by decide +kernel
theorem dX5_begin_6 : decode cX5_begin 6 = .ok (.iload_n 2, 1) := by decide +kernel
theorem dX5_begin_7 : decode cX5_begin 7 = .ok (.putfield 28, 3) := by decide +kernel
theorem dX5_begin_10 : decode cX5_begin 10 = .ok (.aload_n 0, 1) := by decide +kernel
theorem dX5_begin_11 : decode cX5_begin 11 = .ok (.iload_n 3, 1) := by decide +kernel
theorem dX5_begin_12 : decode cX5_begin 12 = .ok (.putfield 31, 3) := by decide +kernel
theorem dX5_begin_15 : decode cX5_begin 15 = .ok (.aload_n 0, 1) := by decide +kernel
theorem dX5_begin_16 : decode cX5_begin 16 = .ok (.iconst (-1), 1) := by decide +kernel
theorem dX5_begin_17 : decode cX5_begin 17 = .ok (.putfield 34, 3) := by decide +kernel
theorem dX5_begin_20 : decode cX5_begin 20 = .ok (.return_, 1) := by decide +kernel
theorem dX5_leaveOpen_0 : decode cX5_leaveOpen 0 = .ok (.aload_n 0, 1) := by decide +kernel
theorem dX5_leaveOpen_1 : decode cX5_leaveOpen 1 = .ok (.iload_n 1, 1) := by decide +kernel
theorem dX5_leaveOpen_2 : decode cX5_leaveOpen 2 = .ok (.putfield 34, 3) := by decide +kernel
theorem dX5_leaveOpen_5 : decode cX5_leaveOpen 5 = .ok (.aload_n 0, 1) := by decide +kernel
theorem dX5_leaveOpen_6 : decode cX5_leaveOpen 6 = .ok (.iload_n 2, 1) := by decide +kernel
theorem dX5_leaveOpen_7 : decode cX5_leaveOpen 7 = .ok (.putfield 37, 3) := by decide +kernel
theorem dX5_leaveOpen_10 : decode cX5_leaveOpen 10 = .ok (.return_, 1) := by decide +kernel
set_option maxRecDepth 100000 in
theorem ggX5_walk_X5_costsFromBehind : GoodIn wsX5_walk wsX5_costsFromBehind := goodIn_r _ [7, 1, 8, 9, 10, 11, 12, 13, 14, 15, 16, 17, 18, 19, 20, 6, 21, 22, 23, 28, 29, 30, 31, 32, 33, 34, 35, 36] (by rfl) (by decide +kernel)
set_option maxRecDepth 20000 in
theorem gX5_walk_X5_costsFromBehind : GoodIn wsX5_walk (wsV RX5 40 RX5 yX5_costsFromBehind wsX5_costsFromBehind) := goodIn_app (goodIn_of _ (by decide +kernel)) ggX5_walk_X5_costsFromBehind
set_option maxRecDepth 100000 in
theorem ggX5_walk_X5_cheapestAt : GoodIn wsX5_walk wsX5_cheapestAt := goodIn_r _ [27, 8, 9, 11, 10, 28, 29, 30, 31, 32, 33, 34, 35, 36] (by rfl) (by decide +kernel)
set_option maxRecDepth 20000 in
theorem gX5_walk_X5_cheapestAt : GoodIn wsX5_walk (wsV RX5 44 RX5 yX5_cheapestAt wsX5_cheapestAt) := goodIn_app (goodIn_of _ (by decide +kernel)) ggX5_walk_X5_cheapestAt
theorem dX5_walk_0 : decode cX5_walk 0 = .ok (.aload_n 0, 1) := by decide +kernel
theorem dX5_walk_1 : decode cX5_walk 1 = .ok (.invokevirtual 40, 3) := by decide +kernel
theorem dX5_walk_4 : decode cX5_walk 4 = .ok (.istore_n 1, 1) := by decide +kernel
theorem dX5_walk_5 : decode cX5_walk 5 = .ok (.iconst (-1), 1) := by decide +kernel
theorem dX5_walk_6 : decode cX5_walk 6 = .ok (.istore_n 2, 1) := by decide +kernel
theorem dX5_walk_7 : decode cX5_walk 7 = .ok (.iconst 0, 1) := by decide +kernel
theorem dX5_walk_8 : decode cX5_walk 8 = .ok (.istore_n 3, 1) := by decide +kernel
theorem dX5_walk_9 : decode cX5_walk 9 = .ok (.iload_n 3, 1) := by decide +kernel
theorem dX5_walk_10 : decode cX5_walk 10 = .ok (.aload_n 0, 1) := by decide +kernel
theorem dX5_walk_11 : decode cX5_walk 11 = .ok (.getfield 24, 3) := by decide +kernel
theorem dX5_walk_14 : decode cX5_walk 14 = .ok (.if_icmp .ge 23, 3) := by decide +kernel
theorem dX5_walk_17 : decode cX5_walk 17 = .ok (.aload_n 0, 1) := by decide +kernel
theorem dX5_walk_18 : decode cX5_walk 18 = .ok (.iload_n 3, 1) := by decide +kernel
theorem dX5_walk_19 : decode cX5_walk 19 = .ok (.iload_n 2, 1) := by decide +kernel
theorem dX5_walk_20 : decode cX5_walk 20 = .ok (.invokevirtual 44, 3) := by decide +kernel
theorem dX5_walk_23 : decode cX5_walk 23 = .ok (.istore_n 2, 1) := by decide +kernel
theorem dX5_walk_24 : decode cX5_walk 24 = .ok (.aload_n 0, 1) := by decide +kernel
theorem dX5_walk_25 : decode cX5_walk 25 = .ok (.getfield 18, 3) := by decide +kernel
theorem dX5_walk_28 : decode cX5_walk 28 = .ok (.iload_n 3, 1) := by decide +kernel
theorem dX5_walk_29 : decode cX5_walk 29 = .ok (.iload_n 2, 1) := by decide +kernel
theorem dX5_walk_30 : decode cX5_walk 30 = .ok (.iastore, 1) := by decide +kernel
theorem dX5_walk_31 : decode cX5_walk 31 = .ok (.iinc 3 1, 3) := by decide +kernel
theorem dX5_walk_34 : decode cX5_walk 34 = .ok (.goto (-25), 3) := by decide +kernel
theorem dX5_walk_37 : decode cX5_walk 37 = .ok (.iload_n 1, 1) := by decide +kernel
theorem dX5_walk_38 : decode cX5_walk 38 = .ok (.ireturn, 1) := by decide +kernel
set_option maxRecDepth 100000 in
theorem ggX5_alikeForEachEnd_X5_leaveOpen : GoodIn wsX5_alikeForEachEnd wsX5_leaveOpen := goodIn_r _ [13, 14, 15, 45, 46, 47, 48, 49, 50, 51, 52, 53] (by rfl) (by decide +kernel)
set_option maxRecDepth 20000 in
theorem gX5_alikeForEachEnd_X5_leaveOpen : GoodIn wsX5_alikeForEachEnd (wsV RX5 48 RX5 yX5_leaveOpen wsX5_leaveOpen) := goodIn_app (goodIn_of _ (by decide +kernel)) ggX5_alikeForEachEnd_X5_leaveOpen
set_option maxRecDepth 100000 in
theorem ggX5_alikeForEachEnd_X5_walk : GoodIn wsX5_alikeForEachEnd wsX5_walk := goodIn_r _ [19, 1, 3, 20, 21, 22, 12, 23, 24, 2, 25, 26, 27, 28, 29, 30, 31, 32, 33, 34, 35, 36, 14, 15, 37, 38, 39, 40, 45, 46, 47, 48, 49, 50, 51, 52, 53] (by rfl) (by decide +kernel)
set_option maxRecDepth 20000 in
theorem gX5_alikeForEachEnd_X5_walk : GoodIn wsX5_alikeForEachEnd (wsV RX5 52 RX5 yX5_walk wsX5_walk) := goodIn_app (goodIn_of _ (by decide +kernel)) ggX5_alikeForEachEnd_X5_walk
set_option maxRecDepth 100000 in
theorem ggX5_alikeForEachEnd_X5_firstUnlike : GoodIn wsX5_alikeForEachEnd wsX5_firstUnlike := goodIn_r _ [44, 3, 4, 45, 46, 47, 48, 49, 50, 51, 52, 53] (by rfl) (by decide +kernel)
set_option maxRecDepth 20000 in
theorem gX5_alikeForEachEnd_X5_firstUnlike : GoodIn wsX5_alikeForEachEnd (wsV RX5 61 RX5 yX5_firstUnlike wsX5_firstUnlike) := goodIn_app (goodIn_of _ (by decide +kernel)) ggX5_alikeForEachEnd_X5_firstUnlike
theorem dX5_alikeForEachEnd_0 : decode cX5_alikeForEachEnd 0 = .ok (.aload_n 0, 1) := by decide +kernel
theorem dX5_alikeForEachEnd_1 : decode cX5_alikeForEachEnd 1 = .ok (.getfield 24, 3) := by decide +kernel
theorem dX5_alikeForEachEnd_4 : decode cX5_alikeForEachEnd 4 = .ok (.istore_n 1, 1) := by decide +kernel
theorem dX5_alikeForEachEnd_5 : decode cX5_alikeForEachEnd 5 = .ok (.iconst 0, 1) := by decide +kernel
theorem dX5_alikeForEachEnd_6 : decode cX5_alikeForEachEnd 6 = .ok (.istore_n 2, 1) := by decide +kernel
theorem dX5_alikeForEachEnd_7 : decode cX5_alikeForEachEnd 7 = .ok (.iload_n 2, 1) := by decide +kernel
theorem dX5_alikeForEachEnd_8 : decode cX5_alikeForEachEnd 8 = .ok (.aload_n 0, 1) := by decide +kernel
theorem dX5_alikeForEachEnd_9 : decode cX5_alikeForEachEnd 9 = .ok (.getfield 28, 3) := by decide +kernel
theorem dX5_alikeForEachEnd_12 : decode cX5_alikeForEachEnd 12 = .ok (.if_icmp .ge 54, 3) := by decide +kernel
theorem dX5_alikeForEachEnd_15 : decode cX5_alikeForEachEnd 15 = .ok (.aload_n 0, 1) := by decide +kernel
theorem dX5_alikeForEachEnd_16 : decode cX5_alikeForEachEnd 16 = .ok (.aload_n 0, 1) := by decide +kernel
theorem dX5_alikeForEachEnd_17 : decode cX5_alikeForEachEnd 17 = .ok (.getfield 24, 3) := by decide +kernel
theorem dX5_alikeForEachEnd_20 : decode cX5_alikeForEachEnd 20 = .ok (.iconst 1, 1) := by decide +kernel
theorem dX5_alikeForEachEnd_21 : decode cX5_alikeForEachEnd 21 = .ok (.isub, 1) := by decide +kernel
theorem dX5_alikeForEachEnd_22 : decode cX5_alikeForEachEnd 22 = .ok (.iconst 1, 1) := by decide +kernel
theorem dX5_alikeForEachEnd_23 : decode cX5_alikeForEachEnd 23 = .ok (.iload_n 2, 1) := by decide +kernel
theorem dX5_alikeForEachEnd_24 : decode cX5_alikeForEachEnd 24 = .ok (.ishl, 1) := by decide +kernel
theorem dX5_alikeForEachEnd_25 : decode cX5_alikeForEachEnd 25 = .ok (.invokevirtual 48, 3) := by decide +kernel
theorem dX5_alikeForEachEnd_28 : decode cX5_alikeForEachEnd 28 = .ok (.aload_n 0, 1) := by decide +kernel
theorem dX5_alikeForEachEnd_29 : decode cX5_alikeForEachEnd 29 = .ok (.invokevirtual 52, 3) := by decide +kernel
theorem dX5_alikeForEachEnd_32 : decode cX5_alikeForEachEnd 32 = .ok (.pop, 1) := by decide +kernel
theorem dX5_alikeForEachEnd_33 : decode cX5_alikeForEachEnd 33 = .ok (.iload_n 2, 1) := by decide +kernel
theorem dX5_alikeForEachEnd_34 : decode cX5_alikeForEachEnd 34 = .ok (.ifCond .ne 20, 3) := by decide +kernel
theorem dX5_alikeForEachEnd_37 : decode cX5_alikeForEachEnd 37 = .ok (.aload_n 0, 1) := by decide +kernel
theorem dX5_alikeForEachEnd_38 : decode cX5_alikeForEachEnd 38 = .ok (.getfield 18, 3) := by decide +kernel
theorem dX5_alikeForEachEnd_41 : decode cX5_alikeForEachEnd 41 = .ok (.iconst 0, 1) := by decide +kernel
theorem dX5_alikeForEachEnd_42 : decode cX5_alikeForEachEnd 42 = .ok (.aload_n 0, 1) := by decide +kernel
theorem dX5_alikeForEachEnd_43 : decode cX5_alikeForEachEnd 43 = .ok (.getfield 21, 3) := by decide +kernel
theorem dX5_alikeForEachEnd_46 : decode cX5_alikeForEachEnd 46 = .ok (.iconst 0, 1) := by decide +kernel
theorem dX5_alikeForEachEnd_47 : decode cX5_alikeForEachEnd 47 = .ok (.aload_n 0, 1) := by decide +kernel
theorem dX5_alikeForEachEnd_48 : decode cX5_alikeForEachEnd 48 = .ok (.getfield 24, 3) := by decide +kernel
theorem dX5_alikeForEachEnd_51 : decode cX5_alikeForEachEnd 51 = .ok (.invokestatic 55, 3) := by decide +kernel
theorem dX5_alikeForEachEnd_54 : decode cX5_alikeForEachEnd 54 = .ok (.aload_n 0, 1) := by decide +kernel
theorem dX5_alikeForEachEnd_55 : decode cX5_alikeForEachEnd 55 = .ok (.iload_n 1, 1) := by decide +kernel
theorem dX5_alikeForEachEnd_56 : decode cX5_alikeForEachEnd 56 = .ok (.invokevirtual 61, 3) := by decide +kernel
theorem dX5_alikeForEachEnd_59 : decode cX5_alikeForEachEnd 59 = .ok (.istore_n 1, 1) := by decide +kernel
theorem dX5_alikeForEachEnd_60 : decode cX5_alikeForEachEnd 60 = .ok (.iinc 2 1, 3) := by decide +kernel
theorem dX5_alikeForEachEnd_63 : decode cX5_alikeForEachEnd 63 = .ok (.goto (-56), 3) := by decide +kernel
theorem dX5_alikeForEachEnd_66 : decode cX5_alikeForEachEnd 66 = .ok (.iload_n 1, 1) := by decide +kernel
theorem dX5_alikeForEachEnd_67 : decode cX5_alikeForEachEnd 67 = .ok (.ireturn, 1) := by decide +kernel
set_option maxRecDepth 100000 in
theorem ggX5_costsFromBehind_X5_isOpen : GoodIn wsX5_costsFromBehind wsX5_isOpen := goodIn_r _ [16, 17, 18, 19, 20, 21, 22, 23, 24, 25, 26, 27] (by rfl) (by decide +kernel)
set_option maxRecDepth 20000 in
theorem gX5_costsFromBehind_X5_isOpen : GoodIn wsX5_costsFromBehind (wsV RX5 73 RX5 yX5_isOpen wsX5_isOpen) := goodIn_app (goodIn_of _ (by decide +kernel)) ggX5_costsFromBehind_X5_isOpen
theorem dX5_costsFromBehind_0 : decode cX5_costsFromBehind 0 = .ok (.iconst 0, 1) := by decide +kernel
theorem dX5_costsFromBehind_1 : decode cX5_costsFromBehind 1 = .ok (.istore_n 1, 1) := by decide +kernel
theorem dX5_costsFromBehind_2 : decode cX5_costsFromBehind 2 = .ok (.aload_n 0, 1) := by decide +kernel
theorem dX5_costsFromBehind_3 : decode cX5_costsFromBehind 3 = .ok (.getfield 24, 3) := by decide +kernel
theorem dX5_costsFromBehind_6 : decode cX5_costsFromBehind 6 = .ok (.iconst 1, 1) := by decide +kernel
theorem dX5_costsFromBehind_7 : decode cX5_costsFromBehind 7 = .ok (.isub, 1) := by decide +kernel
theorem dX5_costsFromBehind_8 : decode cX5_costsFromBehind 8 = .ok (.istore_n 2, 1) := by decide +kernel
theorem dX5_costsFromBehind_9 : decode cX5_costsFromBehind 9 = .ok (.iload_n 2, 1) := by decide +kernel
theorem dX5_costsFromBehind_10 : decode cX5_costsFromBehind 10 = .ok (.ifCond .lt 122, 3) := by decide +kernel
theorem dX5_costsFromBehind_13 : decode cX5_costsFromBehind 13 = .ok (.iload_n 1, 1) := by decide +kernel
theorem dX5_costsFromBehind_14 : decode cX5_costsFromBehind 14 = .ok (.istore_n 3, 1) := by decide +kernel
theorem dX5_costsFromBehind_15 : decode cX5_costsFromBehind 15 = .ok (.ldc 67, 2) := by decide +kernel
theorem dX5_costsFromBehind_17 : decode cX5_costsFromBehind 17 = .ok (.istore_n 1, 1) := by decide +kernel
theorem dX5_costsFromBehind_18 : decode cX5_costsFromBehind 18 = .ok (.iconst 0, 1) := by decide +kernel
theorem dX5_costsFromBehind_19 : decode cX5_costsFromBehind 19 = .ok (.istore 4, 2) := by decide +kernel
theorem dX5_costsFromBehind_21 : decode cX5_costsFromBehind 21 = .ok (.iload 4, 2) := by decide +kernel
