theorem dX7_set_17 : decode cX7_set 17 = .ok (.sipush 5000, 3) := by decide +kernel
theorem dX7_set_20 : decode cX7_set 20 = .ok (.if_icmp .le 11, 3) := by decide +kernel
theorem dX7_set_23 : decode cX7_set 23 = .ok (.aload_n 0, 1) := by decide +kernel
theorem dX7_set_24 : decode cX7_set 24 = .ok (.iconst 2, 1) := by decide +kernel
theorem dX7_set_25 : decode cX7_set 25 = .ok (.invokevirtual 102, 3) := by decide +kernel
theorem dX7_set_28 : decode cX7_set 28 = .ok (.pop, 1) := by decide +kernel
theorem dX7_set_29 : decode cX7_set 29 = .ok (.iconst 0, 1) := by decide +kernel
theorem dX7_set_30 : decode cX7_set 30 = .ok (.ireturn, 1) := by decide +kernel
theorem dX7_set_31 : decode cX7_set 31 = .ok (.aload_n 0, 1) := by decide +kernel
theorem dX7_set_32 : decode cX7_set 32 = .ok (.iload_n 1, 1) := by decide +kernel
theorem dX7_set_33 : decode cX7_set 33 = .ok (.putfield 52, 3) := by decide +kernel
theorem dX7_set_36 : decode cX7_set 36 = .ok (.aload_n 0, 1) := by decide +kernel
theorem dX7_set_37 : decode cX7_set 37 = .ok (.iload_n 2, 1) := by decide +kernel
theorem dX7_set_38 : decode cX7_set 38 = .ok (.putfield 55, 3) := by decide +kernel
theorem dX7_set_41 : decode cX7_set 41 = .ok (.aload_n 0, 1) := by decide +kernel
theorem dX7_set_42 : decode cX7_set 42 = .ok (.iconst 0, 1) := by decide +kernel
theorem dX7_set_43 : decode cX7_set 43 = .ok (.invokevirtual 106, 3) := by decide +kernel
theorem dX7_set_46 : decode cX7_set 46 = .ok (.pop, 1) := by decide +kernel
theorem dX7_set_47 : decode cX7_set 47 = .ok (.iconst 1, 1) := by decide +kernel
theorem dX7_set_48 : decode cX7_set 48 = .ok (.ireturn, 1) := by decide +kernel
set_option maxRecDepth 100000 in
theorem ggX7_pair_X4_has : GoodIn wsX7_pair wsX4_has := goodIn_r _ [6, 7, 35, 36] (by rfl) (by decide +kernel)
set_option maxRecDepth 20000 in
theorem gX7_pair_X4_has : GoodIn wsX7_pair (wsV RX7 109 RX4 yX4_has wsX4_has) := goodIn_app (goodIn_of _ (by decide +kernel)) ggX7_pair_X4_has
set_option maxRecDepth 100000 in
theorem ggX7_pair_X7_isSign : GoodIn wsX7_pair wsX7_isSign := goodIn_r _ [11] (by rfl) (by decide +kernel)
set_option maxRecDepth 20000 in
theorem gX7_pair_X7_isSign : GoodIn wsX7_pair (va_wsS RX7 161 yX7_isSign wsX7_isSign) := goodIn_app (goodIn_of _ (by decide +kernel)) ggX7_pair_X7_isSign
set_option maxRecDepth 100000 in
theorem ggX7_pair_X4_counted : GoodIn wsX7_pair wsX4_counted := goodIn_r _ [15, 16, 35, 36] (by rfl) (by decide +kernel)
set_option maxRecDepth 20000 in
theorem gX7_pair_X4_counted : GoodIn wsX7_pair (wsV RX7 164 RX4 yX4_counted wsX4_counted) := goodIn_app (goodIn_of _ (by decide +kernel)) ggX7_pair_X4_counted
theorem dX7_pair_0 : decode cX7_pair 0 = .ok (.aload_n 0, 1) := by decide +kernel
theorem dX7_pair_1 : decode cX7_pair 1 = .ok (.getfield 20, 3) := by decide +kernel
theorem dX7_pair_4 : decode cX7_pair 4 = .ok (.iload_n 1, 1) := by decide +kernel
theorem dX7_pair_5 : decode cX7_pair 5 = .ok (.invokevirtual 109, 3) := by decide +kernel
theorem dX7_pair_8 : decode cX7_pair 8 = .ok (.ifCond .eq 17, 3) := by decide +kernel
theorem dX7_pair_11 : decode cX7_pair 11 = .ok (.iload_n 2, 1) := by decide +kernel
theorem dX7_pair_12 : decode cX7_pair 12 = .ok (.invokestatic 161, 3) := by decide +kernel
theorem dX7_pair_15 : decode cX7_pair 15 = .ok (.ifCond .eq 10, 3) := by decide +kernel
theorem dX7_pair_18 : decode cX7_pair 18 = .ok (.iload_n 3, 1) := by decide +kernel
theorem dX7_pair_19 : decode cX7_pair 19 = .ok (.invokestatic 161, 3) := by decide +kernel
theorem dX7_pair_22 : decode cX7_pair 22 = .ok (.ifCond .ne 5, 3) := by decide +kernel
theorem dX7_pair_25 : decode cX7_pair 25 = .ok (.iconst (-1), 1) := by decide +kernel
theorem dX7_pair_26 : decode cX7_pair 26 = .ok (.ireturn, 1) := by decide +kernel
theorem dX7_pair_27 : decode cX7_pair 27 = .ok (.aload_n 0, 1) := by decide +kernel
theorem dX7_pair_28 : decode cX7_pair 28 = .ok (.getfield 20, 3) := by decide +kernel
theorem dX7_pair_31 : decode cX7_pair 31 = .ok (.iload_n 1, 1) := by decide +kernel
theorem dX7_pair_32 : decode cX7_pair 32 = .ok (.iload_n 2, 1) := by decide +kernel
theorem dX7_pair_33 : decode cX7_pair 33 = .ok (.iload_n 3, 1) := by decide +kernel
theorem dX7_pair_34 : decode cX7_pair 34 = .ok (.invokevirtual 164, 3) := by decide +kernel
theorem dX7_pair_37 : decode cX7_pair 37 = .ok (.ireturn, 1) := by decide +kernel
set_option maxRecDepth 100000 in
theorem ggX7_text_X7_isOnTape : GoodIn wsX7_text wsX7_isOnTape := goodIn_r _ [5, 6, 70, 71, 72, 73, 74, 75, 76, 77, 78, 79, 80, 81, 82, 83, 84, 85, 86, 87] (by rfl) (by decide +kernel)
set_option maxRecDepth 20000 in
theorem gX7_text_X7_isOnTape : GoodIn wsX7_text (wsV RX7 113 RX7 yX7_isOnTape wsX7_isOnTape) := goodIn_app (goodIn_of _ (by decide +kernel)) ggX7_text_X7_isOnTape
set_option maxRecDepth 100000 in
theorem ggX7_text_X7_refuse : GoodIn wsX7_text wsX7_refuse := goodIn_r _ [10, 11, 70, 71, 72, 73, 74, 75, 76, 77, 78, 79, 80, 81, 82, 83, 84, 85, 86, 87] (by rfl) (by decide +kernel)
set_option maxRecDepth 20000 in
theorem gX7_text_X7_refuse : GoodIn wsX7_text (wsV RX7 102 RX7 yX7_refuse wsX7_refuse) := goodIn_app (goodIn_of _ (by decide +kernel)) ggX7_text_X7_refuse
set_option maxRecDepth 100000 in
theorem ggX7_text_X7_draftFromTape : GoodIn wsX7_text wsX7_draftFromTape := goodIn_r _ [15, 16, 17, 18, 19, 20, 21, 22, 23, 24, 25, 26, 4, 27, 6, 28, 29, 30, 31, 32, 33, 34, 35, 36, 37, 38, 39, 40, 41, 42, 43, 44, 45, 46, 47, 48, 49, 50, 51, 52, 53, 54, 55, 56, 57, 58, 70, 71, 72, 73, 74, 75, 76, 77, 78, 79, 80, 81, 82, 83, 84, 85, 86, 87, 88, 89, 90, 91, 92] (by rfl) (by decide +kernel)
set_option maxRecDepth 20000 in
theorem gX7_text_X7_draftFromTape : GoodIn wsX7_text (wsV RX7 116 RX7 yX7_draftFromTape wsX7_draftFromTape) := goodIn_app (goodIn_of _ (by decide +kernel)) ggX7_text_X7_draftFromTape
set_option maxRecDepth 100000 in
theorem ggX7_text_X7_draftBecomesText : GoodIn wsX7_text wsX7_draftBecomesText := goodIn_r _ [62, 63, 16, 64, 65, 66, 67, 68, 4, 69, 11, 70, 71, 72, 73, 74, 75, 76, 77, 78, 79, 80, 81, 82, 83, 84, 85, 86, 87, 88, 89, 90, 91, 92] (by rfl) (by decide +kernel)
set_option maxRecDepth 20000 in
theorem gX7_text_X7_draftBecomesText : GoodIn wsX7_text (wsV RX7 168 RX7 yX7_draftBecomesText wsX7_draftBecomesText) := goodIn_app (goodIn_of _ (by decide +kernel)) ggX7_text_X7_draftBecomesText
theorem dX7_text_0 : decode cX7_text 0 = .ok (.aload_n 0, 1) := by decide +kernel
theorem dX7_text_1 : decode cX7_text 1 = .ok (.iload_n 1, 1) := by decide +kernel
theorem dX7_text_2 : decode cX7_text 2 = .ok (.invokevirtual 113, 3) := by decide +kernel
theorem dX7_text_5 : decode cX7_text 5 = .ok (.ifCond .ne 9, 3) := by decide +kernel
theorem dX7_text_8 : decode cX7_text 8 = .ok (.aload_n 0, 1) := by decide +kernel
theorem dX7_text_9 : decode cX7_text 9 = .ok (.iconst 2, 1) := by decide +kernel
theorem dX7_text_10 : decode cX7_text 10 = .ok (.invokevirtual 102, 3) := by decide +kernel
theorem dX7_text_13 : decode cX7_text 13 = .ok (.ireturn, 1) := by decide +kernel
theorem dX7_text_14 : decode cX7_text 14 = .ok (.aload_n 0, 1) := by decide +kernel
theorem dX7_text_15 : decode cX7_text 15 = .ok (.iload_n 1, 1) := by decide +kernel
theorem dX7_text_16 : decode cX7_text 16 = .ok (.invokevirtual 116, 3) := by decide +kernel
theorem dX7_text_19 : decode cX7_text 19 = .ok (.ifCond .eq 10, 3) := by decide +kernel
theorem dX7_text_22 : decode cX7_text 22 = .ok (.aload_n 0, 1) := by decide +kernel
theorem dX7_text_23 : decode cX7_text 23 = .ok (.invokevirtual 168, 3) := by decide +kernel
theorem dX7_text_26 : decode cX7_text 26 = .ok (.goto 8, 3) := by decide +kernel
theorem dX7_text_29 : decode cX7_text 29 = .ok (.aload_n 0, 1) := by decide +kernel
theorem dX7_text_30 : decode cX7_text 30 = .ok (.iconst 3, 1) := by decide +kernel
theorem dX7_text_31 : decode cX7_text 31 = .ok (.invokevirtual 102, 3) := by decide +kernel
theorem dX7_text_34 : decode cX7_text 34 = .ok (.ireturn, 1) := by decide +kernel
set_option maxRecDepth 100000 in
theorem ggX7_more_X7_isOnTape : GoodIn wsX7_more wsX7_isOnTape := goodIn_r _ [9, 10, 68, 69, 70, 71, 72, 73, 74, 75, 76, 77, 78, 79, 80, 81, 82, 83, 84, 85] (by rfl) (by decide +kernel)
set_option maxRecDepth 20000 in
theorem gX7_more_X7_isOnTape : GoodIn wsX7_more (wsV RX7 113 RX7 yX7_isOnTape wsX7_isOnTape) := goodIn_app (goodIn_of _ (by decide +kernel)) ggX7_more_X7_isOnTape
set_option maxRecDepth 100000 in
theorem ggX7_more_X7_refuse : GoodIn wsX7_more wsX7_refuse := goodIn_r _ [14, 15, 68, 69, 70, 71, 72, 73, 74, 75, 76, 77, 78, 79, 80, 81, 82, 83, 84, 85] (by rfl) (by decide +kernel)
set_option maxRecDepth 20000 in
theorem gX7_more_X7_refuse : GoodIn wsX7_more (wsV RX7 102 RX7 yX7_refuse wsX7_refuse) := goodIn_app (goodIn_of _ (by decide +kernel)) ggX7_more_X7_refuse
set_option maxRecDepth 100000 in
theorem ggX7_more_X2_empty : GoodIn wsX7_more wsX2_empty := goodIn_r _ [20, 21, 22, 86, 87, 88, 89, 90] (by rfl) (by decide +kernel)
set_option maxRecDepth 20000 in
theorem gX7_more_X2_empty : GoodIn wsX7_more (wsV RX7 171 RX2 yX2_empty wsX2_empty) := goodIn_app (goodIn_of _ (by decide +kernel)) ggX7_more_X2_empty
set_option maxRecDepth 100000 in
theorem ggX7_more_X2_append : GoodIn wsX7_more wsX2_append := goodIn_r _ [26, 27, 21, 28, 29, 30, 31, 86, 87, 88, 89, 90] (by rfl) (by decide +kernel)
set_option maxRecDepth 20000 in
theorem gX7_more_X2_append : GoodIn wsX7_more (wsV RX7 178 RX2 yX2_append wsX2_append) := goodIn_app (goodIn_of _ (by decide +kernel)) ggX7_more_X2_append
set_option maxRecDepth 100000 in
theorem ggX7_more_X7_tapeBehindDraft : GoodIn wsX7_more wsX7_tapeBehindDraft := goodIn_r _ [35, 10, 1, 36, 23, 24, 25, 19, 26, 27, 21, 28, 29, 30, 31, 37, 38, 39, 40, 22, 41, 42, 43, 44, 45, 46, 47, 48, 49, 50, 51, 52, 53, 54, 55, 56, 57, 68, 69, 70, 71, 72, 73, 74, 75, 76, 77, 78, 79, 80, 81, 82, 83, 84, 85, 86, 87, 88, 89, 90] (by rfl) (by decide +kernel)
set_option maxRecDepth 20000 in
theorem gX7_more_X7_tapeBehindDraft : GoodIn wsX7_more (wsV RX7 182 RX7 yX7_tapeBehindDraft wsX7_tapeBehindDraft) := goodIn_app (goodIn_of _ (by decide +kernel)) ggX7_more_X7_tapeBehindDraft
set_option maxRecDepth 100000 in
theorem ggX7_more_X7_draftBecomesText : GoodIn wsX7_more wsX7_draftBecomesText := goodIn_r _ [61, 2, 1, 62, 63, 64, 65, 66, 8, 67, 15, 68, 69, 70, 71, 72, 73, 74, 75, 76, 77, 78, 79, 80, 81, 82, 83, 84, 85, 86, 87, 88, 89, 90] (by rfl) (by decide +kernel)
set_option maxRecDepth 20000 in
theorem gX7_more_X7_draftBecomesText : GoodIn wsX7_more (wsV RX7 168 RX7 yX7_draftBecomesText wsX7_draftBecomesText) := goodIn_app (goodIn_of _ (by decide +kernel)) ggX7_more_X7_draftBecomesText
theorem dX7_more_0 : decode cX7_more 0 = .ok (.aload_n 0, 1) := by decide +kernel
theorem dX7_more_1 : decode cX7_more 1 = .ok (.iload_n 1, 1) := by decide +kernel
theorem dX7_more_2 : decode cX7_more 2 = .ok (.invokevirtual 113, 3) := by decide +kernel
theorem dX7_more_5 : decode cX7_more 5 = .ok (.ifCond .ne 9, 3) := by decide +kernel
theorem dX7_more_8 : decode cX7_more 8 = .ok (.aload_n 0, 1) := by decide +kernel
theorem dX7_more_9 : decode cX7_more 9 = .ok (.iconst 2, 1) := by decide +kernel
theorem dX7_more_10 : decode cX7_more 10 = .ok (.invokevirtual 102, 3) := by decide +kernel
theorem dX7_more_13 : decode cX7_more 13 = .ok (.ireturn, 1) := by decide +kernel
theorem dX7_more_14 : decode cX7_more 14 = .ok (.aload_n 0, 1) := by decide +kernel
theorem dX7_more_15 : decode cX7_more 15 = .ok (.getfield 65, 3) := by decide +kernel
theorem dX7_more_18 : decode cX7_more 18 = .ok (.invokevirtual 171, 3) := by decide +kernel
theorem dX7_more_21 : decode cX7_more 21 = .ok (.aload_n 0, 1) := by decide +kernel
theorem dX7_more_22 : decode cX7_more 22 = .ok (.getfield 65, 3) := by decide +kernel
theorem dX7_more_25 : decode cX7_more 25 = .ok (.aload_n 0, 1) := by decide +kernel
theorem dX7_more_26 : decode cX7_more 26 = .ok (.getfield 61, 3) := by decide +kernel
theorem dX7_more_29 : decode cX7_more 29 = .ok (.getfield 174, 3) := by decide +kernel
theorem dX7_more_32 : decode cX7_more 32 = .ok (.aload_n 0, 1) := by decide +kernel
theorem dX7_more_33 : decode cX7_more 33 = .ok (.getfield 61, 3) := by decide +kernel
theorem dX7_more_36 : decode cX7_more 36 = .ok (.getfield 177, 3) := by decide +kernel
theorem dX7_more_39 : decode cX7_more 39 = .ok (.invokevirtual 178, 3) := by decide +kernel
theorem dX7_more_42 : decode cX7_more 42 = .ok (.pop, 1) := by decide +kernel
theorem dX7_more_43 : decode cX7_more 43 = .ok (.aload_n 0, 1) := by decide +kernel
theorem dX7_more_44 : decode cX7_more 44 = .ok (.iload_n 1, 1) := by decide +kernel
theorem dX7_more_45 : decode cX7_more 45 = .ok (.invokevirtual 182, 3) := by decide +kernel
theorem dX7_more_48 : decode cX7_more 48 = .ok (.ifCond .eq 10, 3) := by decide +kernel
theorem dX7_more_51 : decode cX7_more 51 = .ok (.aload_n 0, 1) := by decide +kernel
theorem dX7_more_52 : decode cX7_more 52 = .ok (.invokevirtual 168, 3) := by decide +kernel
theorem dX7_more_55 : decode cX7_more 55 = .ok (.goto 8, 3) := by decide +kernel
theorem dX7_more_58 : decode cX7_more 58 = .ok (.aload_n 0, 1) := by decide +kernel
theorem dX7_more_59 : decode cX7_more 59 = .ok (.iconst 3, 1) := by decide +kernel
theorem dX7_more_60 : decode cX7_more 60 = .ok (.invokevirtual 102, 3) := by decide +kernel
theorem dX7_more_63 : decode cX7_more 63 = .ok (.ireturn, 1) := by decide +kernel
set_option maxRecDepth 100000 in
theorem ggX7_word_X7_isWord : GoodIn wsX7_word wsX7_isWord := goodIn_r _ [8, 1, 9, 38, 39, 40, 41, 42, 43, 44, 45, 46, 47, 48, 49, 50, 51, 52, 53, 54, 55, 56, 57, 58, 59, 60] (by rfl) (by decide +kernel)
set_option maxRecDepth 20000 in
theorem gX7_word_X7_isWord : GoodIn wsX7_word (wsV RX7 185 RX7 yX7_isWord wsX7_isWord) := goodIn_app (goodIn_of _ (by decide +kernel)) ggX7_word_X7_isWord
set_option maxRecDepth 100000 in
theorem ggX7_word_X7_kindOfWord : GoodIn wsX7_word wsX7_kindOfWord := goodIn_r _ [13, 1, 14, 15, 16, 17, 18, 19, 20, 21, 22, 23, 24, 25, 26, 27, 28, 29, 30, 31, 32, 33, 34, 35, 36, 37, 38, 39, 40, 41, 42, 43, 44, 45, 46, 47, 48, 49, 50, 51, 52, 53, 54, 55, 56, 57, 58, 59, 60, 61, 62, 63] (by rfl) (by decide +kernel)
set_option maxRecDepth 20000 in
theorem gX7_word_X7_kindOfWord : GoodIn wsX7_word (wsV RX7 194 RX7 yX7_kindOfWord wsX7_kindOfWord) := goodIn_app (goodIn_of _ (by decide +kernel)) ggX7_word_X7_kindOfWord
theorem dX7_word_0 : decode cX7_word 0 = .ok (.aload_n 0, 1) := by decide +kernel
theorem dX7_word_1 : decode cX7_word 1 = .ok (.iload_n 1, 1) := by decide +kernel
theorem dX7_word_2 : decode cX7_word 2 = .ok (.invokevirtual 185, 3) := by decide +kernel
theorem dX7_word_5 : decode cX7_word 5 = .ok (.ifCond .ne 5, 3) := by decide +kernel
theorem dX7_word_8 : decode cX7_word 8 = .ok (.iconst (-1), 1) := by decide +kernel
theorem dX7_word_9 : decode cX7_word 9 = .ok (.ireturn, 1) := by decide +kernel
theorem dX7_word_10 : decode cX7_word 10 = .ok (.iload_n 2, 1) := by decide +kernel
theorem dX7_word_11 : decode cX7_word 11 = .ok (.tableswitch 51 0 2 #[25, 35, 45], 25) := by decide +kernel
theorem dX7_word_36 : decode cX7_word 36 = .ok (.aload_n 0, 1) := by decide +kernel
theorem dX7_word_37 : decode cX7_word 37 = .ok (.getfield 61, 3) := by decide +kernel
theorem dX7_word_40 : decode cX7_word 40 = .ok (.getfield 188, 3) := by decide +kernel
theorem dX7_word_43 : decode cX7_word 43 = .ok (.iload_n 1, 1) := by decide +kernel
theorem dX7_word_44 : decode cX7_word 44 = .ok (.iaload, 1) := by decide +kernel
theorem dX7_word_45 : decode cX7_word 45 = .ok (.ireturn, 1) := by decide +kernel
theorem dX7_word_46 : decode cX7_word 46 = .ok (.aload_n 0, 1) := by decide +kernel
theorem dX7_word_47 : decode cX7_word 47 = .ok (.getfield 61, 3) := by decide +kernel
theorem dX7_word_50 : decode cX7_word 50 = .ok (.getfield 191, 3) := by decide +kernel
theorem dX7_word_53 : decode cX7_word 53 = .ok (.iload_n 1, 1) := by decide +kernel
theorem dX7_word_54 : decode cX7_word 54 = .ok (.iaload, 1) := by decide +kernel
theorem dX7_word_55 : decode cX7_word 55 = .ok (.ireturn, 1) := by decide +kernel
theorem dX7_word_56 : decode cX7_word 56 = .ok (.aload_n 0, 1) := by decide +kernel
theorem dX7_word_57 : decode cX7_word 57 = .ok (.iload_n 1, 1) := by decide +kernel
theorem dX7_word_58 : decode cX7_word 58 = .ok (.invokevirtual 194, 3) := by decide +kernel
theorem dX7_word_61 : decode cX7_word 61 = .ok (.ireturn, 1) := by decide +kernel
theorem dX7_word_62 : decode cX7_word 62 = .ok (.iconst (-1), 1) := by decide +kernel
theorem dX7_word_63 : decode cX7_word 63 = .ok (.ireturn, 1) := by decide +kernel
set_option maxRecDepth 100000 in
theorem ggX7_cost_X7_isWord : GoodIn wsX7_cost wsX7_isWord := goodIn_r _ [6, 7, 8, 64, 65, 66, 67, 68, 69, 70, 71, 72, 73, 74, 75, 76, 77, 78, 79, 80, 81, 82, 83, 84, 85, 86] (by rfl) (by decide +kernel)
set_option maxRecDepth 20000 in
theorem gX7_cost_X7_isWord : GoodIn wsX7_cost (wsV RX7 185 RX7 yX7_isWord wsX7_isWord) := goodIn_app (goodIn_of _ (by decide +kernel)) ggX7_cost_X7_isWord
set_option maxRecDepth 100000 in
theorem ggX7_cost_X4_has : GoodIn wsX7_cost wsX4_has := goodIn_r _ [13, 14, 87, 88] (by rfl) (by decide +kernel)
set_option maxRecDepth 20000 in
theorem gX7_cost_X4_has : GoodIn wsX7_cost (wsV RX7 109 RX4 yX4_has wsX4_has) := goodIn_app (goodIn_of _ (by decide +kernel)) ggX7_cost_X4_has
set_option maxRecDepth 100000 in
theorem ggX7_cost_X7_keepersOf : GoodIn wsX7_cost wsX7_keepersOf := goodIn_r _ [18, 7, 19, 20, 21, 22, 23, 24, 25, 26, 27, 28, 29, 30, 31, 32, 33, 34, 35, 36, 37, 38, 39, 40, 41, 42, 43, 64, 65, 66, 67, 68, 69, 70, 71, 72, 73, 74, 75, 76, 77, 78, 79, 80, 81, 82, 83, 84, 85, 86, 89, 90, 91] (by rfl) (by decide +kernel)
set_option maxRecDepth 20000 in
theorem gX7_cost_X7_keepersOf : GoodIn wsX7_cost (wsV RX7 197 RX7 yX7_keepersOf wsX7_keepersOf) := goodIn_app (goodIn_of _ (by decide +kernel)) ggX7_cost_X7_keepersOf
set_option maxRecDepth 100000 in
theorem ggX7_cost_X7_costInTongue : GoodIn wsX7_cost wsX7_costInTongue := goodIn_r _ [47, 1, 7, 48, 49, 50, 12, 51, 52, 53, 54, 55, 56, 57, 58, 59, 60, 61, 62, 63, 64, 65, 66, 67, 68, 69, 70, 71, 72, 73, 74, 75, 76, 77, 78, 79, 80, 81, 82, 83, 84, 85, 86, 87, 88] (by rfl) (by decide +kernel)
set_option maxRecDepth 20000 in
theorem gX7_cost_X7_costInTongue : GoodIn wsX7_cost (wsV RX7 200 RX7 yX7_costInTongue wsX7_costInTongue) := goodIn_app (goodIn_of _ (by decide +kernel)) ggX7_cost_X7_costInTongue
theorem dX7_cost_0 : decode cX7_cost 0 = .ok (.aload_n 0, 1) := by decide +kernel
theorem dX7_cost_1 : decode cX7_cost 1 = .ok (.iload_n 1, 1) := by decide +kernel
theorem dX7_cost_2 : decode cX7_cost 2 = .ok (.invokevirtual 185, 3) := by decide +kernel
theorem dX7_cost_5 : decode cX7_cost 5 = .ok (.ifCond .eq 14, 3) := by decide +kernel
theorem dX7_cost_8 : decode cX7_cost 8 = .ok (.aload_n 0, 1) := by decide +kernel
theorem dX7_cost_9 : decode cX7_cost 9 = .ok (.getfield 20, 3) := by decide +kernel
theorem dX7_cost_12 : decode cX7_cost 12 = .ok (.iload_n 2, 1) := by decide +kernel
theorem dX7_cost_13 : decode cX7_cost 13 = .ok (.invokevirtual 109, 3) := by decide +kernel
theorem dX7_cost_16 : decode cX7_cost 16 = .ok (.ifCond .ne 5, 3) := by decide +kernel
theorem dX7_cost_19 : decode cX7_cost 19 = .ok (.iconst (-1), 1) := by decide +kernel
theorem dX7_cost_20 : decode cX7_cost 20 = .ok (.ireturn, 1) := by decide +kernel
theorem dX7_cost_21 : decode cX7_cost 21 = .ok (.aload_n 0, 1) := by decide +kernel
theorem dX7_cost_22 : decode cX7_cost 22 = .ok (.iload_n 1, 1) := by decide +kernel
theorem dX7_cost_23 : decode cX7_cost 23 = .ok (.iload_n 2, 1) := by decide +kernel
theorem dX7_cost_24 : decode cX7_cost 24 = .ok (.aload_n 0, 1) := by decide +kernel
theorem dX7_cost_25 : decode cX7_cost 25 = .ok (.iload_n 1, 1) := by decide +kernel
theorem dX7_cost_26 : decode cX7_cost 26 = .ok (.invokevirtual 197, 3) := by decide +kernel
theorem dX7_cost_29 : decode cX7_cost 29 = .ok (.invokevirtual 200, 3) := by decide +kernel
theorem dX7_cost_32 : decode cX7_cost 32 = .ok (.ireturn, 1) := by decide +kernel
set_option maxRecDepth 100000 in
theorem ggX7_part_X7_canPart : GoodIn wsX7_part wsX7_canPart := goodIn_r _ [9, 10, 11, 12, 127, 128, 129, 130, 131, 132, 133, 134, 135, 136, 137, 138, 139, 140, 141, 142, 143, 144, 154, 155] (by rfl) (by decide +kernel)
set_option maxRecDepth 20000 in
theorem gX7_part_X7_canPart : GoodIn wsX7_part (wsV RX7 203 RX7 yX7_canPart wsX7_canPart) := goodIn_app (goodIn_of _ (by decide +kernel)) ggX7_part_X7_canPart
set_option maxRecDepth 100000 in
theorem ggX7_part_X7_refuse : GoodIn wsX7_part wsX7_refuse := goodIn_r _ [16, 17, 127, 128, 129, 130, 131, 132, 133, 134, 135, 136, 137, 138, 139, 140, 141, 142, 143, 144] (by rfl) (by decide +kernel)
set_option maxRecDepth 20000 in
theorem gX7_part_X7_refuse : GoodIn wsX7_part (wsV RX7 102 RX7 yX7_refuse wsX7_refuse) := goodIn_app (goodIn_of _ (by decide +kernel)) ggX7_part_X7_refuse
set_option maxRecDepth 100000 in
theorem ggX7_part_X7_weighText : GoodIn wsX7_part wsX7_weighText := goodIn_r _ [21, 1, 22, 23, 11, 12, 24, 25, 26, 27, 28, 29, 30, 31, 32, 33, 34, 35, 36, 37, 8, 38, 39, 40, 41, 42, 43, 44, 45, 46, 47, 48, 49, 50, 51, 52, 53, 54, 55, 56, 57, 58, 59, 60, 61, 62, 63, 64, 65, 66, 67, 68, 69, 70, 71, 72, 73, 74, 75, 76, 77, 78, 79, 80, 81, 82, 83, 84, 127, 128, 129, 130, 131, 132, 133, 134, 135, 136, 137, 138, 139, 140, 141, 142, 143, 144, 156, 157, 158, 159, 160, 154, 155, 145, 146, 147, 148, 149, 150, 151, 152, 153, 161, 162, 163] (by rfl) (by decide +kernel)
set_option maxRecDepth 20000 in
theorem gX7_part_X7_weighText : GoodIn wsX7_part (wsV RX7 207 RX7 yX7_weighText wsX7_weighText) := goodIn_app (goodIn_of _ (by decide +kernel)) ggX7_part_X7_weighText
set_option maxRecDepth 100000 in
theorem ggX7_part_X5_walk : GoodIn wsX7_part wsX5_walk := goodIn_r _ [88, 31, 89, 90, 91, 92, 29, 93, 94, 32, 95, 33, 96, 97, 98, 99, 100, 101, 102, 103, 104, 105, 34, 106, 107, 108, 109, 110, 145, 146, 147, 148, 149, 150, 151, 152, 153] (by rfl) (by decide +kernel)
set_option maxRecDepth 20000 in
theorem gX7_part_X5_walk : GoodIn wsX7_part (wsV RX7 210 RX5 yX5_walk wsX5_walk) := goodIn_app (goodIn_of _ (by decide +kernel)) ggX7_part_X5_walk
set_option maxRecDepth 100000 in
theorem ggX7_part_X1_keep : GoodIn wsX7_part wsX1_keep := goodIn_r _ [115, 116, 117, 118, 119, 120, 121, 122, 164, 165, 166] (by rfl) (by decide +kernel)
set_option maxRecDepth 20000 in
theorem gX7_part_X1_keep : GoodIn wsX7_part (wsV RX7 219 RX1 yX1_keep wsX1_keep) := goodIn_app (goodIn_of _ (by decide +kernel)) ggX7_part_X1_keep
set_option maxRecDepth 100000 in
theorem ggX7_part_X7_grant : GoodIn wsX7_part wsX7_grant := goodIn_r _ [126, 17, 127, 128, 129, 130, 131, 132, 133, 134, 135, 136, 137, 138, 139, 140, 141, 142, 143, 144] (by rfl) (by decide +kernel)
set_option maxRecDepth 20000 in
theorem gX7_part_X7_grant : GoodIn wsX7_part (wsV RX7 106 RX7 yX7_grant wsX7_grant) := goodIn_app (goodIn_of _ (by decide +kernel)) ggX7_part_X7_grant
theorem dX7_part_0 : decode cX7_part 0 = .ok (.aload_n 0, 1) := by decide +kernel
theorem dX7_part_1 : decode cX7_part 1 = .ok (.invokevirtual 203, 3) := by decide +kernel
theorem dX7_part_4 : decode cX7_part 4 = .ok (.ifCond .ne 9, 3) := by decide +kernel
theorem dX7_part_7 : decode cX7_part 7 = .ok (.aload_n 0, 1) := by decide +kernel
theorem dX7_part_8 : decode cX7_part 8 = .ok (.iconst 5, 1) := by decide +kernel
theorem dX7_part_9 : decode cX7_part 9 = .ok (.invokevirtual 102, 3) := by decide +kernel
theorem dX7_part_12 : decode cX7_part 12 = .ok (.ireturn, 1) := by decide +kernel
theorem dX7_part_13 : decode cX7_part 13 = .ok (.aload_n 0, 1) := by decide +kernel
theorem dX7_part_14 : decode cX7_part 14 = .ok (.invokevirtual 207, 3) := by decide +kernel
theorem dX7_part_17 : decode cX7_part 17 = .ok (.aload_n 0, 1) := by decide +kernel
theorem dX7_part_18 : decode cX7_part 18 = .ok (.getfield 75, 3) := by decide +kernel
theorem dX7_part_21 : decode cX7_part 21 = .ok (.invokevirtual 210, 3) := by decide +kernel
theorem dX7_part_24 : decode cX7_part 24 = .ok (.istore_n 1, 1) := by decide +kernel
theorem dX7_part_25 : decode cX7_part 25 = .ok (.aload_n 0, 1) := by decide +kernel
theorem dX7_part_26 : decode cX7_part 26 = .ok (.getfield 82, 3) := by decide +kernel
theorem dX7_part_29 : decode cX7_part 29 = .ok (.aload_n 0, 1) := by decide +kernel
theorem dX7_part_30 : decode cX7_part 30 = .ok (.getfield 75, 3) := by decide +kernel
theorem dX7_part_33 : decode cX7_part 33 = .ok (.getfield 213, 3) := by decide +kernel
theorem dX7_part_36 : decode cX7_part 36 = .ok (.aload_n 0, 1) := by decide +kernel
theorem dX7_part_37 : decode cX7_part 37 = .ok (.getfield 75, 3) := by decide +kernel
theorem dX7_part_40 : decode cX7_part 40 = .ok (.getfield 216, 3) := by decide +kernel
theorem dX7_part_43 : decode cX7_part 43 = .ok (.invokevirtual 219, 3) := by decide +kernel
theorem dX7_part_46 : decode cX7_part 46 = .ok (.aload_n 0, 1) := by decide +kernel
theorem dX7_part_47 : decode cX7_part 47 = .ok (.iload_n 1, 1) := by decide +kernel
theorem dX7_part_48 : decode cX7_part 48 = .ok (.invokevirtual 106, 3) := by decide +kernel
theorem dX7_part_51 : decode cX7_part 51 = .ok (.ireturn, 1) := by decide +kernel
theorem dX7_told_0 : decode cX7_told 0 = .ok (.iload_n 1, 1) := by decide +kernel
theorem dX7_told_1 : decode cX7_told 1 = .ok (.ifCond .lt 26, 3) := by decide +kernel
theorem dX7_told_4 : decode cX7_told 4 = .ok (.iload_n 1, 1) := by decide +kernel
theorem dX7_told_5 : decode cX7_told 5 = .ok (.aload_n 0, 1) := by decide +kernel
theorem dX7_told_6 : decode cX7_told 6 = .ok (.getfield 82, 3) := by decide +kernel
theorem dX7_told_9 : decode cX7_told 9 = .ok (.getfield 223, 3) := by decide +kernel
theorem dX7_told_12 : decode cX7_told 12 = .ok (.if_icmp .ge 15, 3) := by decide +kernel
theorem dX7_told_15 : decode cX7_told 15 = .ok (.aload_n 0, 1) := by decide +kernel
theorem dX7_told_16 : decode cX7_told 16 = .ok (.getfield 82, 3) := by decide +kernel
theorem dX7_told_19 : decode cX7_told 19 = .ok (.getfield 224, 3) := by decide +kernel
theorem dX7_told_22 : decode cX7_told 22 = .ok (.iload_n 1, 1) := by decide +kernel
theorem dX7_told_23 : decode cX7_told 23 = .ok (.iaload, 1) := by decide +kernel
theorem dX7_told_24 : decode cX7_told 24 = .ok (.goto 4, 3) := by decide +kernel
theorem dX7_told_27 : decode cX7_told 27 = .ok (.iconst (-1), 1) := by decide +kernel
theorem dX7_told_28 : decode cX7_told 28 = .ok (.ireturn, 1) := by decide +kernel
set_option maxRecDepth 100000 in
theorem ggX7_spans_X1_spansIn : GoodIn wsX7_spans wsX1_spansIn := goodIn_r _ [7, 8, 9, 10, 11, 6, 12, 13, 32, 33, 34] (by rfl) (by decide +kernel)
set_option maxRecDepth 20000 in
theorem gX7_spans_X1_spansIn : GoodIn wsX7_spans (wsV RX7 230 RX1 yX1_spansIn wsX1_spansIn) := goodIn_app (goodIn_of _ (by decide +kernel)) ggX7_spans_X1_spansIn
theorem dX7_spans_0 : decode cX7_spans 0 = .ok (.aload_n 0, 1) := by decide +kernel
theorem dX7_spans_1 : decode cX7_spans 1 = .ok (.getfield 82, 3) := by decide +kernel
theorem dX7_spans_4 : decode cX7_spans 4 = .ok (.getfield 227, 3) := by decide +kernel
theorem dX7_spans_7 : decode cX7_spans 7 = .ok (.ifCond .eq 13, 3) := by decide +kernel
theorem dX7_spans_10 : decode cX7_spans 10 = .ok (.aload_n 0, 1) := by decide +kernel
theorem dX7_spans_11 : decode cX7_spans 11 = .ok (.getfield 82, 3) := by decide +kernel
theorem dX7_spans_14 : decode cX7_spans 14 = .ok (.invokevirtual 230, 3) := by decide +kernel
theorem dX7_spans_17 : decode cX7_spans 17 = .ok (.goto 4, 3) := by decide +kernel
theorem dX7_spans_20 : decode cX7_spans 20 = .ok (.iconst (-1), 1) := by decide +kernel
theorem dX7_spans_21 : decode cX7_spans 21 = .ok (.ireturn, 1) := by decide +kernel
set_option maxRecDepth 100000 in
theorem ggX7_span_X1_firstOfSpan : GoodIn wsX7_span wsX1_firstOfSpan := goodIn_r _ [7, 8, 9, 10, 11, 6, 12, 13, 36, 37, 38] (by rfl) (by decide +kernel)
set_option maxRecDepth 20000 in
theorem gX7_span_X1_firstOfSpan : GoodIn wsX7_span (wsV RX7 233 RX1 yX1_firstOfSpan wsX1_firstOfSpan) := goodIn_app (goodIn_of _ (by decide +kernel)) ggX7_span_X1_firstOfSpan
set_option maxRecDepth 100000 in
theorem ggX7_span_X1_lengthOfSpan : GoodIn wsX7_span wsX1_lengthOfSpan := goodIn_r _ [17, 8, 9, 10, 11, 6, 12, 13, 36, 37, 38] (by rfl) (by decide +kernel)
set_option maxRecDepth 20000 in
theorem gX7_span_X1_lengthOfSpan : GoodIn wsX7_span (wsV RX7 236 RX1 yX1_lengthOfSpan wsX1_lengthOfSpan) := goodIn_app (goodIn_of _ (by decide +kernel)) ggX7_span_X1_lengthOfSpan
theorem dX7_span_0 : decode cX7_span 0 = .ok (.aload_n 0, 1) := by decide +kernel
theorem dX7_span_1 : decode cX7_span 1 = .ok (.getfield 82, 3) := by decide +kernel
theorem dX7_span_4 : decode cX7_span 4 = .ok (.iload_n 1, 1) := by decide +kernel
theorem dX7_span_5 : decode cX7_span 5 = .ok (.invokevirtual 233, 3) := by decide +kernel
theorem dX7_span_8 : decode cX7_span 8 = .ok (.istore_n 3, 1) := by decide +kernel
theorem dX7_span_9 : decode cX7_span 9 = .ok (.iload_n 3, 1) := by decide +kernel
theorem dX7_span_10 : decode cX7_span 10 = .ok (.iconst (-1), 1) := by decide +kernel
theorem dX7_span_11 : decode cX7_span 11 = .ok (.if_icmp .ne 5, 3) := by decide +kernel
theorem dX7_span_14 : decode cX7_span 14 = .ok (.iconst (-1), 1) := by decide +kernel
theorem dX7_span_15 : decode cX7_span 15 = .ok (.ireturn, 1) := by decide +kernel
theorem dX7_span_16 : decode cX7_span 16 = .ok (.iload_n 2, 1) := by decide +kernel
theorem dX7_span_17 : decode cX7_span 17 = .ok (.tableswitch 48 0 2 #[27, 29, 38], 27) := by decide +kernel
theorem dX7_span_44 : decode cX7_span 44 = .ok (.iload_n 3, 1) := by decide +kernel
theorem dX7_span_45 : decode cX7_span 45 = .ok (.ireturn, 1) := by decide +kernel
theorem dX7_span_46 : decode cX7_span 46 = .ok (.aload_n 0, 1) := by decide +kernel
theorem dX7_span_47 : decode cX7_span 47 = .ok (.getfield 82, 3) := by decide +kernel
theorem dX7_span_50 : decode cX7_span 50 = .ok (.iload_n 3, 1) := by decide +kernel
theorem dX7_span_51 : decode cX7_span 51 = .ok (.invokevirtual 236, 3) := by decide +kernel
theorem dX7_span_54 : decode cX7_span 54 = .ok (.ireturn, 1) := by decide +kernel
theorem dX7_span_55 : decode cX7_span 55 = .ok (.aload_n 0, 1) := by decide +kernel
theorem dX7_span_56 : decode cX7_span 56 = .ok (.getfield 82, 3) := by decide +kernel
theorem dX7_span_59 : decode cX7_span 59 = .ok (.getfield 224, 3) := by decide +kernel
theorem dX7_span_62 : decode cX7_span 62 = .ok (.iload_n 3, 1) := by decide +kernel
theorem dX7_span_63 : decode cX7_span 63 = .ok (.iaload, 1) := by decide +kernel
theorem dX7_span_64 : decode cX7_span 64 = .ok (.ireturn, 1) := by decide +kernel
theorem dX7_span_65 : decode cX7_span 65 = .ok (.iconst (-1), 1) := by decide +kernel
theorem dX7_span_66 : decode cX7_span 66 = .ok (.ireturn, 1) := by decide +kernel
set_option maxRecDepth 100000 in
theorem ggX7_sure_X7_canPart : GoodIn wsX7_sure wsX7_canPart := goodIn_r _ [10, 11, 1, 2, 122, 123, 124, 125, 126, 127, 128, 129, 130, 131, 132, 133, 134, 135, 136, 137, 138, 139, 140, 141] (by rfl) (by decide +kernel)
set_option maxRecDepth 20000 in
theorem gX7_sure_X7_canPart : GoodIn wsX7_sure (wsV RX7 203 RX7 yX7_canPart wsX7_canPart) := goodIn_app (goodIn_of _ (by decide +kernel)) ggX7_sure_X7_canPart
set_option maxRecDepth 100000 in
theorem ggX7_sure_X7_refuse : GoodIn wsX7_sure wsX7_refuse := goodIn_r _ [15, 16, 122, 123, 124, 125, 126, 127, 128, 129, 130, 131, 132, 133, 134, 135, 136, 137, 138, 139] (by rfl) (by decide +kernel)
set_option maxRecDepth 20000 in
theorem gX7_sure_X7_refuse : GoodIn wsX7_sure (wsV RX7 102 RX7 yX7_refuse wsX7_refuse) := goodIn_app (goodIn_of _ (by decide +kernel)) ggX7_sure_X7_refuse
set_option maxRecDepth 100000 in
theorem ggX7_sure_X7_isWord : GoodIn wsX7_sure wsX7_isWord := goodIn_r _ [20, 21, 22, 122, 123, 124, 125, 126, 127, 128, 129, 130, 131, 132, 133, 134, 135, 136, 137, 138, 139, 151, 152, 153, 154, 155] (by rfl) (by decide +kernel)
set_option maxRecDepth 20000 in
theorem gX7_sure_X7_isWord : GoodIn wsX7_sure (wsV RX7 185 RX7 yX7_isWord wsX7_isWord) := goodIn_app (goodIn_of _ (by decide +kernel)) ggX7_sure_X7_isWord
set_option maxRecDepth 100000 in
theorem ggX7_sure_X7_grant : GoodIn wsX7_sure wsX7_grant := goodIn_r _ [26, 16, 122, 123, 124, 125, 126, 127, 128, 129, 130, 131, 132, 133, 134, 135, 136, 137, 138, 139] (by rfl) (by decide +kernel)
set_option maxRecDepth 20000 in
theorem gX7_sure_X7_grant : GoodIn wsX7_sure (wsV RX7 106 RX7 yX7_grant wsX7_grant) := goodIn_app (goodIn_of _ (by decide +kernel)) ggX7_sure_X7_grant
set_option maxRecDepth 100000 in
theorem ggX7_sure_X7_weighText : GoodIn wsX7_sure wsX7_weighText := goodIn_r _ [30, 4, 21, 22, 1, 2, 31, 32, 33, 34, 35, 36, 37, 38, 39, 40, 41, 42, 43, 44, 9, 45, 46, 47, 48, 49, 50, 51, 52, 53, 54, 55, 56, 57, 58, 59, 60, 61, 62, 63, 64, 65, 66, 67, 68, 69, 70, 71, 72, 73, 74, 75, 76, 77, 78, 79, 80, 81, 82, 83, 84, 85, 86, 87, 88, 89, 90, 91, 122, 123, 124, 125, 126, 127, 128, 129, 130, 131, 132, 133, 134, 135, 136, 137, 138, 139, 151, 152, 153, 154, 155, 140, 141, 142, 143, 144, 145, 146, 147, 148, 149, 150, 156, 157, 158] (by rfl) (by decide +kernel)
set_option maxRecDepth 20000 in
theorem gX7_sure_X7_weighText : GoodIn wsX7_sure (wsV RX7 207 RX7 yX7_weighText wsX7_weighText) := goodIn_app (goodIn_of _ (by decide +kernel)) ggX7_sure_X7_weighText
set_option maxRecDepth 100000 in
theorem ggX7_sure_X5_walk : GoodIn wsX7_sure wsX5_walk := goodIn_r _ [95, 38, 96, 97, 98, 99, 36, 100, 101, 39, 102, 40, 103, 104, 105, 106, 107, 108, 109, 110, 111, 112, 41, 113, 114, 115, 116, 117, 142, 143, 144, 145, 146, 147, 148, 149, 150] (by rfl) (by decide +kernel)
set_option maxRecDepth 20000 in
theorem gX7_sure_X5_walk : GoodIn wsX7_sure (wsV RX7 210 RX5 yX5_walk wsX5_walk) := goodIn_app (goodIn_of _ (by decide +kernel)) ggX7_sure_X5_walk
set_option maxRecDepth 100000 in
theorem ggX7_sure_X5_leaveOpen : GoodIn wsX7_sure wsX5_leaveOpen := goodIn_r _ [121, 41, 113, 142, 143, 144, 145, 146, 147, 148, 149, 150] (by rfl) (by decide +kernel)
set_option maxRecDepth 20000 in
theorem gX7_sure_X5_leaveOpen : GoodIn wsX7_sure (wsV RX7 240 RX5 yX5_leaveOpen wsX5_leaveOpen) := goodIn_app (goodIn_of _ (by decide +kernel)) ggX7_sure_X5_leaveOpen
theorem dX7_sure_0 : decode cX7_sure 0 = .ok (.aload_n 0, 1) := by decide +kernel
theorem dX7_sure_1 : decode cX7_sure 1 = .ok (.invokevirtual 203, 3) := by decide +kernel
theorem dX7_sure_4 : decode cX7_sure 4 = .ok (.ifCond .ne 9, 3) := by decide +kernel
theorem dX7_sure_7 : decode cX7_sure 7 = .ok (.aload_n 0, 1) := by decide +kernel
theorem dX7_sure_8 : decode cX7_sure 8 = .ok (.iconst 5, 1) := by decide +kernel
theorem dX7_sure_9 : decode cX7_sure 9 = .ok (.invokevirtual 102, 3) := by decide +kernel
theorem dX7_sure_12 : decode cX7_sure 12 = .ok (.ireturn, 1) := by decide +kernel
theorem dX7_sure_13 : decode cX7_sure 13 = .ok (.aload_n 0, 1) := by decide +kernel
theorem dX7_sure_14 : decode cX7_sure 14 = .ok (.iload_n 1, 1) := by decide +kernel
theorem dX7_sure_15 : decode cX7_sure 15 = .ok (.invokevirtual 185, 3) := by decide +kernel
theorem dX7_sure_18 : decode cX7_sure 18 = .ok (.ifCond .ne 9, 3) := by decide +kernel
theorem dX7_sure_21 : decode cX7_sure 21 = .ok (.aload_n 0, 1) := by decide +kernel
theorem dX7_sure_22 : decode cX7_sure 22 = .ok (.iconst 1, 1) := by decide +kernel
theorem dX7_sure_23 : decode cX7_sure 23 = .ok (.invokevirtual 102, 3) := by decide +kernel
theorem dX7_sure_26 : decode cX7_sure 26 = .ok (.ireturn, 1) := by decide +kernel
theorem dX7_sure_27 : decode cX7_sure 27 = .ok (.aload_n 0, 1) := by decide +kernel
theorem dX7_sure_28 : decode cX7_sure 28 = .ok (.getfield 20, 3) := by decide +kernel
theorem dX7_sure_31 : decode cX7_sure 31 = .ok (.getfield 99, 3) := by decide +kernel
theorem dX7_sure_34 : decode cX7_sure 34 = .ok (.iconst 1, 1) := by decide +kernel
theorem dX7_sure_35 : decode cX7_sure 35 = .ok (.if_icmp .ne 10, 3) := by decide +kernel
theorem dX7_sure_38 : decode cX7_sure 38 = .ok (.aload_n 0, 1) := by decide +kernel
theorem dX7_sure_39 : decode cX7_sure 39 = .ok (.ldc 239, 2) := by decide +kernel
theorem dX7_sure_41 : decode cX7_sure 41 = .ok (.invokevirtual 106, 3) := by decide +kernel
theorem dX7_sure_44 : decode cX7_sure 44 = .ok (.ireturn, 1) := by decide +kernel
theorem dX7_sure_45 : decode cX7_sure 45 = .ok (.aload_n 0, 1) := by decide +kernel
theorem dX7_sure_46 : decode cX7_sure 46 = .ok (.invokevirtual 207, 3) := by decide +kernel
theorem dX7_sure_49 : decode cX7_sure 49 = .ok (.aload_n 0, 1) := by decide +kernel
theorem dX7_sure_50 : decode cX7_sure 50 = .ok (.getfield 75, 3) := by decide +kernel
theorem dX7_sure_53 : decode cX7_sure 53 = .ok (.invokevirtual 210, 3) := by decide +kernel
theorem dX7_sure_56 : decode cX7_sure 56 = .ok (.istore_n 2, 1) := by decide +kernel
theorem dX7_sure_57 : decode cX7_sure 57 = .ok (.aload_n 0, 1) := by decide +kernel
theorem dX7_sure_58 : decode cX7_sure 58 = .ok (.getfield 75, 3) := by decide +kernel
theorem dX7_sure_61 : decode cX7_sure 61 = .ok (.iload_n 1, 1) := by decide +kernel
theorem dX7_sure_62 : decode cX7_sure 62 = .ok (.iconst 1, 1) := by decide +kernel
theorem dX7_sure_63 : decode cX7_sure 63 = .ok (.aload_n 0, 1) := by decide +kernel
theorem dX7_sure_64 : decode cX7_sure 64 = .ok (.getfield 75, 3) := by decide +kernel
theorem dX7_sure_67 : decode cX7_sure 67 = .ok (.getfield 213, 3) := by decide +kernel
theorem dX7_sure_70 : decode cX7_sure 70 = .ok (.iload_n 1, 1) := by decide +kernel
theorem dX7_sure_71 : decode cX7_sure 71 = .ok (.iaload, 1) := by decide +kernel
theorem dX7_sure_72 : decode cX7_sure 72 = .ok (.ishl, 1) := by decide +kernel
theorem dX7_sure_73 : decode cX7_sure 73 = .ok (.iconst (-1), 1) := by decide +kernel
theorem dX7_sure_74 : decode cX7_sure 74 = .ok (.ixor, 1) := by decide +kernel
theorem dX7_sure_75 : decode cX7_sure 75 = .ok (.invokevirtual 240, 3) := by decide +kernel
theorem dX7_sure_78 : decode cX7_sure 78 = .ok (.aload_n 0, 1) := by decide +kernel
theorem dX7_sure_79 : decode cX7_sure 79 = .ok (.aload_n 0, 1) := by decide +kernel
theorem dX7_sure_80 : decode cX7_sure 80 = .ok (.getfield 75, 3) := by decide +kernel
theorem dX7_sure_83 : decode cX7_sure 83 = .ok (.invokevirtual 210, 3) := by decide +kernel
theorem dX7_sure_86 : decode cX7_sure 86 = .ok (.iload_n 2, 1) := by decide +kernel
theorem dX7_sure_87 : decode cX7_sure 87 = .ok (.isub, 1) := by decide +kernel
theorem dX7_sure_88 : decode cX7_sure 88 = .ok (.invokevirtual 106, 3) := by decide +kernel
theorem dX7_sure_91 : decode cX7_sure 91 = .ok (.ireturn, 1) := by decide +kernel
set_option maxRecDepth 100000 in
theorem ggX7_fixed_X7_canPart : GoodIn wsX7_fixed wsX7_canPart := goodIn_r _ [6, 7, 8, 9, 129, 130, 131, 132, 133, 134, 135, 136, 137, 138, 139, 140, 141, 142, 143, 144, 145, 146, 147, 148] (by rfl) (by decide +kernel)
set_option maxRecDepth 20000 in
theorem gX7_fixed_X7_canPart : GoodIn wsX7_fixed (wsV RX7 203 RX7 yX7_canPart wsX7_canPart) := goodIn_app (goodIn_of _ (by decide +kernel)) ggX7_fixed_X7_canPart
set_option maxRecDepth 100000 in
theorem ggX7_fixed_X7_refuse : GoodIn wsX7_fixed wsX7_refuse := goodIn_r _ [13, 14, 129, 130, 131, 132, 133, 134, 135, 136, 137, 138, 139, 140, 141, 142, 143, 144, 145, 146] (by rfl) (by decide +kernel)
set_option maxRecDepth 20000 in
theorem gX7_fixed_X7_refuse : GoodIn wsX7_fixed (wsV RX7 102 RX7 yX7_refuse wsX7_refuse) := goodIn_app (goodIn_of _ (by decide +kernel)) ggX7_fixed_X7_refuse
set_option maxRecDepth 100000 in
theorem ggX7_fixed_X7_weighText : GoodIn wsX7_fixed wsX7_weighText := goodIn_r _ [18, 1, 19, 20, 8, 9, 21, 22, 23, 24, 25, 26, 27, 28, 29, 30, 31, 32, 33, 34, 5, 35, 36, 37, 38, 39, 40, 41, 42, 43, 44, 45, 46, 47, 48, 49, 50, 51, 52, 53, 54, 55, 56, 57, 58, 59, 60, 61, 62, 63, 64, 65, 66, 67, 68, 69, 70, 71, 72, 73, 74, 75, 76, 77, 78, 79, 80, 81, 129, 130, 131, 132, 133, 134, 135, 136, 137, 138, 139, 140, 141, 142, 143, 144, 145, 146, 149, 150, 151, 152, 153, 147, 148, 154, 155, 156, 157, 158, 159, 160, 161, 162, 163, 164, 165] (by rfl) (by decide +kernel)
set_option maxRecDepth 20000 in
theorem gX7_fixed_X7_weighText : GoodIn wsX7_fixed (wsV RX7 207 RX7 yX7_weighText wsX7_weighText) := goodIn_app (goodIn_of _ (by decide +kernel)) ggX7_fixed_X7_weighText
set_option maxRecDepth 100000 in
theorem ggX7_fixed_X5_alikeForEachEnd : GoodIn wsX7_fixed wsX5_alikeForEachEnd := goodIn_r _ [85, 28, 29, 86, 87, 88, 89, 90, 91, 92, 93, 94, 26, 95, 31, 96, 97, 98, 99, 100, 101, 102, 103, 104, 105, 106, 30, 107, 108, 109, 110, 111, 112, 113, 114, 115, 116, 117, 118, 119, 120, 121, 122, 123, 124, 154, 155, 156, 157, 158, 159, 160, 161, 162] (by rfl) (by decide +kernel)
set_option maxRecDepth 20000 in
theorem gX7_fixed_X5_alikeForEachEnd : GoodIn wsX7_fixed (wsV RX7 244 RX5 yX5_alikeForEachEnd wsX5_alikeForEachEnd) := goodIn_app (goodIn_of _ (by decide +kernel)) ggX7_fixed_X5_alikeForEachEnd
set_option maxRecDepth 100000 in
theorem ggX7_fixed_X7_grant : GoodIn wsX7_fixed wsX7_grant := goodIn_r _ [128, 14, 129, 130, 131, 132, 133, 134, 135, 136, 137, 138, 139, 140, 141, 142, 143, 144, 145, 146] (by rfl) (by decide +kernel)
set_option maxRecDepth 20000 in
theorem gX7_fixed_X7_grant : GoodIn wsX7_fixed (wsV RX7 106 RX7 yX7_grant wsX7_grant) := goodIn_app (goodIn_of _ (by decide +kernel)) ggX7_fixed_X7_grant
theorem dX7_fixed_0 : decode cX7_fixed 0 = .ok (.aload_n 0, 1) := by decide +kernel
theorem dX7_fixed_1 : decode cX7_fixed 1 = .ok (.invokevirtual 203, 3) := by decide +kernel
theorem dX7_fixed_4 : decode cX7_fixed 4 = .ok (.ifCond .ne 9, 3) := by decide +kernel
theorem dX7_fixed_7 : decode cX7_fixed 7 = .ok (.aload_n 0, 1) := by decide +kernel
theorem dX7_fixed_8 : decode cX7_fixed 8 = .ok (.iconst 5, 1) := by decide +kernel
theorem dX7_fixed_9 : decode cX7_fixed 9 = .ok (.invokevirtual 102, 3) := by decide +kernel
theorem dX7_fixed_12 : decode cX7_fixed 12 = .ok (.ireturn, 1) := by decide +kernel
theorem dX7_fixed_13 : decode cX7_fixed 13 = .ok (.aload_n 0, 1) := by decide +kernel
theorem dX7_fixed_14 : decode cX7_fixed 14 = .ok (.invokevirtual 207, 3) := by decide +kernel
theorem dX7_fixed_17 : decode cX7_fixed 17 = .ok (.aload_n 0, 1) := by decide +kernel
theorem dX7_fixed_18 : decode cX7_fixed 18 = .ok (.aload_n 0, 1) := by decide +kernel
theorem dX7_fixed_19 : decode cX7_fixed 19 = .ok (.getfield 75, 3) := by decide +kernel
theorem dX7_fixed_22 : decode cX7_fixed 22 = .ok (.invokevirtual 244, 3) := by decide +kernel
theorem dX7_fixed_25 : decode cX7_fixed 25 = .ok (.invokevirtual 106, 3) := by decide +kernel
theorem dX7_fixed_28 : decode cX7_fixed 28 = .ok (.ireturn, 1) := by decide +kernel
set_option maxRecDepth 100000 in
theorem ggX7_whole_X7_canPart : GoodIn wsX7_whole wsX7_canPart := goodIn_r _ [8, 9, 1, 10, 75, 76, 77, 78, 79, 80, 81, 82, 83, 84, 85, 86, 87, 88, 89, 90, 91, 92, 98, 99] (by rfl) (by decide +kernel)
set_option maxRecDepth 20000 in
theorem gX7_whole_X7_canPart : GoodIn wsX7_whole (wsV RX7 203 RX7 yX7_canPart wsX7_canPart) := goodIn_app (goodIn_of _ (by decide +kernel)) ggX7_whole_X7_canPart
set_option maxRecDepth 100000 in
theorem ggX7_whole_X7_refuse : GoodIn wsX7_whole wsX7_refuse := goodIn_r _ [14, 15, 75, 76, 77, 78, 79, 80, 81, 82, 83, 84, 85, 86, 87, 88, 89, 90, 91, 92] (by rfl) (by decide +kernel)
set_option maxRecDepth 20000 in
theorem gX7_whole_X7_refuse : GoodIn wsX7_whole (wsV RX7 102 RX7 yX7_refuse wsX7_refuse) := goodIn_app (goodIn_of _ (by decide +kernel)) ggX7_whole_X7_refuse
set_option maxRecDepth 100000 in
theorem ggX7_whole_X4_has : GoodIn wsX7_whole wsX4_has := goodIn_r _ [20, 21, 98, 99] (by rfl) (by decide +kernel)
set_option maxRecDepth 20000 in
theorem gX7_whole_X4_has : GoodIn wsX7_whole (wsV RX7 109 RX4 yX4_has wsX4_has) := goodIn_app (goodIn_of _ (by decide +kernel)) ggX7_whole_X4_has
set_option maxRecDepth 100000 in
theorem ggX7_whole_X7_keepersOf : GoodIn wsX7_whole wsX7_keepersOf := goodIn_r _ [25, 2, 26, 27, 28, 29, 30, 31, 32, 33, 34, 35, 36, 37, 38, 39, 40, 41, 42, 43, 44, 45, 46, 47, 48, 49, 50, 75, 76, 77, 78, 79, 80, 81, 82, 83, 84, 85, 86, 87, 88, 89, 90, 91, 92, 93, 94, 95, 96, 97, 100, 101, 102] (by rfl) (by decide +kernel)
set_option maxRecDepth 20000 in
theorem gX7_whole_X7_keepersOf : GoodIn wsX7_whole (wsV RX7 197 RX7 yX7_keepersOf wsX7_keepersOf) := goodIn_app (goodIn_of _ (by decide +kernel)) ggX7_whole_X7_keepersOf
set_option maxRecDepth 100000 in
theorem ggX7_whole_X7_costInTongue : GoodIn wsX7_whole wsX7_costInTongue := goodIn_r _ [54, 1, 2, 55, 56, 57, 19, 58, 59, 60, 61, 62, 63, 64, 65, 66, 67, 68, 69, 70, 75, 76, 77, 78, 79, 80, 81, 82, 83, 84, 85, 86, 87, 88, 89, 90, 91, 92, 93, 94, 95, 96, 97, 98, 99] (by rfl) (by decide +kernel)
set_option maxRecDepth 20000 in
theorem gX7_whole_X7_costInTongue : GoodIn wsX7_whole (wsV RX7 200 RX7 yX7_costInTongue wsX7_costInTongue) := goodIn_app (goodIn_of _ (by decide +kernel)) ggX7_whole_X7_costInTongue
set_option maxRecDepth 100000 in
theorem ggX7_whole_X7_grant : GoodIn wsX7_whole wsX7_grant := goodIn_r _ [74, 15, 75, 76, 77, 78, 79, 80, 81, 82, 83, 84, 85, 86, 87, 88, 89, 90, 91, 92] (by rfl) (by decide +kernel)
set_option maxRecDepth 20000 in
theorem gX7_whole_X7_grant : GoodIn wsX7_whole (wsV RX7 106 RX7 yX7_grant wsX7_grant) := goodIn_app (goodIn_of _ (by decide +kernel)) ggX7_whole_X7_grant
theorem dX7_whole_0 : decode cX7_whole 0 = .ok (.aload_n 0, 1) := by decide +kernel
theorem dX7_whole_1 : decode cX7_whole 1 = .ok (.invokevirtual 203, 3) := by decide +kernel
theorem dX7_whole_4 : decode cX7_whole 4 = .ok (.ifCond .ne 9, 3) := by decide +kernel
theorem dX7_whole_7 : decode cX7_whole 7 = .ok (.aload_n 0, 1) := by decide +kernel
theorem dX7_whole_8 : decode cX7_whole 8 = .ok (.iconst 5, 1) := by decide +kernel
theorem dX7_whole_9 : decode cX7_whole 9 = .ok (.invokevirtual 102, 3) := by decide +kernel
theorem dX7_whole_12 : decode cX7_whole 12 = .ok (.ireturn, 1) := by decide +kernel
theorem dX7_whole_13 : decode cX7_whole 13 = .ok (.aload_n 0, 1) := by decide +kernel
theorem dX7_whole_14 : decode cX7_whole 14 = .ok (.getfield 20, 3) := by decide +kernel
theorem dX7_whole_17 : decode cX7_whole 17 = .ok (.iload_n 1, 1) := by decide +kernel
theorem dX7_whole_18 : decode cX7_whole 18 = .ok (.invokevirtual 109, 3) := by decide +kernel
theorem dX7_whole_21 : decode cX7_whole 21 = .ok (.ifCond .ne 9, 3) := by decide +kernel
theorem dX7_whole_24 : decode cX7_whole 24 = .ok (.aload_n 0, 1) := by decide +kernel
theorem dX7_whole_25 : decode cX7_whole 25 = .ok (.iconst 1, 1) := by decide +kernel
theorem dX7_whole_26 : decode cX7_whole 26 = .ok (.invokevirtual 102, 3) := by decide +kernel
theorem dX7_whole_29 : decode cX7_whole 29 = .ok (.ireturn, 1) := by decide +kernel
theorem dX7_whole_30 : decode cX7_whole 30 = .ok (.iconst 0, 1) := by decide +kernel
theorem dX7_whole_31 : decode cX7_whole 31 = .ok (.istore_n 2, 1) := by decide +kernel
theorem dX7_whole_32 : decode cX7_whole 32 = .ok (.iconst 0, 1) := by decide +kernel
theorem dX7_whole_33 : decode cX7_whole 33 = .ok (.istore_n 3, 1) := by decide +kernel
theorem dX7_whole_34 : decode cX7_whole 34 = .ok (.iload_n 3, 1) := by decide +kernel
theorem dX7_whole_35 : decode cX7_whole 35 = .ok (.aload_n 0, 1) := by decide +kernel
theorem dX7_whole_36 : decode cX7_whole 36 = .ok (.getfield 61, 3) := by decide +kernel
theorem dX7_whole_39 : decode cX7_whole 39 = .ok (.getfield 247, 3) := by decide +kernel
theorem dX7_whole_42 : decode cX7_whole 42 = .ok (.if_icmp .ge 23, 3) := by decide +kernel
theorem dX7_whole_45 : decode cX7_whole 45 = .ok (.iload_n 2, 1) := by decide +kernel
theorem dX7_whole_46 : decode cX7_whole 46 = .ok (.aload_n 0, 1) := by decide +kernel
theorem dX7_whole_47 : decode cX7_whole 47 = .ok (.iload_n 3, 1) := by decide +kernel
theorem dX7_whole_48 : decode cX7_whole 48 = .ok (.iload_n 1, 1) := by decide +kernel
theorem dX7_whole_49 : decode cX7_whole 49 = .ok (.aload_n 0, 1) := by decide +kernel
theorem dX7_whole_50 : decode cX7_whole 50 = .ok (.iload_n 3, 1) := by decide +kernel
theorem dX7_whole_51 : decode cX7_whole 51 = .ok (.invokevirtual 197, 3) := by decide +kernel
theorem dX7_whole_54 : decode cX7_whole 54 = .ok (.invokevirtual 200, 3) := by decide +kernel
theorem dX7_whole_57 : decode cX7_whole 57 = .ok (.iadd, 1) := by decide +kernel
theorem dX7_whole_58 : decode cX7_whole 58 = .ok (.istore_n 2, 1) := by decide +kernel
theorem dX7_whole_59 : decode cX7_whole 59 = .ok (.iinc 3 1, 3) := by decide +kernel
theorem dX7_whole_62 : decode cX7_whole 62 = .ok (.goto (-28), 3) := by decide +kernel
theorem dX7_whole_65 : decode cX7_whole 65 = .ok (.aload_n 0, 1) := by decide +kernel
theorem dX7_whole_66 : decode cX7_whole 66 = .ok (.iload_n 2, 1) := by decide +kernel
theorem dX7_whole_67 : decode cX7_whole 67 = .ok (.invokevirtual 106, 3) := by decide +kernel
theorem dX7_whole_70 : decode cX7_whole 70 = .ok (.ireturn, 1) := by decide +kernel
set_option maxRecDepth 100000 in
theorem ggX7_tells_X7_canPart : GoodIn wsX7_tells wsX7_canPart := goodIn_r _ [9, 10, 1, 11, 114, 115, 116, 117, 118, 119, 120, 121, 122, 123, 124, 125, 126, 127, 128, 129, 130, 131, 132, 133] (by rfl) (by decide +kernel)
set_option maxRecDepth 20000 in
theorem gX7_tells_X7_canPart : GoodIn wsX7_tells (wsV RX7 203 RX7 yX7_canPart wsX7_canPart) := goodIn_app (goodIn_of _ (by decide +kernel)) ggX7_tells_X7_canPart
set_option maxRecDepth 100000 in
theorem ggX7_tells_X7_refuse : GoodIn wsX7_tells wsX7_refuse := goodIn_r _ [15, 16, 114, 115, 116, 117, 118, 119, 120, 121, 122, 123, 124, 125, 126, 127, 128, 129, 130, 131] (by rfl) (by decide +kernel)
set_option maxRecDepth 20000 in
theorem gX7_tells_X7_refuse : GoodIn wsX7_tells (wsV RX7 102 RX7 yX7_refuse wsX7_refuse) := goodIn_app (goodIn_of _ (by decide +kernel)) ggX7_tells_X7_refuse
set_option maxRecDepth 100000 in
theorem ggX7_tells_X4_has : GoodIn wsX7_tells wsX4_has := goodIn_r _ [21, 22, 132, 133] (by rfl) (by decide +kernel)
set_option maxRecDepth 20000 in
theorem gX7_tells_X4_has : GoodIn wsX7_tells (wsV RX7 109 RX4 yX4_has wsX4_has) := goodIn_app (goodIn_of _ (by decide +kernel)) ggX7_tells_X4_has
set_option maxRecDepth 100000 in
theorem ggX7_tells_X7_weighText : GoodIn wsX7_tells wsX7_weighText := goodIn_r _ [26, 3, 27, 28, 1, 11, 29, 30, 31, 32, 33, 34, 35, 36, 37, 38, 39, 40, 41, 42, 8, 43, 44, 45, 46, 47, 48, 49, 50, 51, 52, 53, 54, 55, 56, 57, 58, 59, 60, 61, 62, 63, 64, 65, 66, 67, 68, 69, 70, 71, 72, 73, 74, 75, 20, 76, 77, 78, 79, 80, 81, 82, 83, 84, 85, 86, 87, 88, 114, 115, 116, 117, 118, 119, 120, 121, 122, 123, 124, 125, 126, 127, 128, 129, 130, 131, 134, 135, 136, 137, 138, 132, 133, 139, 140, 141, 142, 143, 144, 145, 146, 147, 148, 149, 150] (by rfl) (by decide +kernel)
set_option maxRecDepth 20000 in
theorem gX7_tells_X7_weighText : GoodIn wsX7_tells (wsV RX7 207 RX7 yX7_weighText wsX7_weighText) := goodIn_app (goodIn_of _ (by decide +kernel)) ggX7_tells_X7_weighText
set_option maxRecDepth 100000 in
theorem ggX7_tells_X3_choose : GoodIn wsX7_tells wsX3_choose := goodIn_r _ [93, 94, 95, 96, 97, 98, 92, 99, 100, 101, 102, 103, 104, 105, 106, 107, 108, 109, 139, 140, 141, 142, 143, 144, 145, 146, 147, 151, 152, 153] (by rfl) (by decide +kernel)
set_option maxRecDepth 20000 in
theorem gX7_tells_X3_choose : GoodIn wsX7_tells (wsV RX7 248 RX3 yX3_choose wsX3_choose) := goodIn_app (goodIn_of _ (by decide +kernel)) ggX7_tells_X3_choose
set_option maxRecDepth 100000 in
theorem ggX7_tells_X7_grant : GoodIn wsX7_tells wsX7_grant := goodIn_r _ [113, 16, 114, 115, 116, 117, 118, 119, 120, 121, 122, 123, 124, 125, 126, 127, 128, 129, 130, 131] (by rfl) (by decide +kernel)
set_option maxRecDepth 20000 in
theorem gX7_tells_X7_grant : GoodIn wsX7_tells (wsV RX7 106 RX7 yX7_grant wsX7_grant) := goodIn_app (goodIn_of _ (by decide +kernel)) ggX7_tells_X7_grant
theorem dX7_tells_0 : decode cX7_tells 0 = .ok (.aload_n 0, 1) := by decide +kernel
theorem dX7_tells_1 : decode cX7_tells 1 = .ok (.invokevirtual 203, 3) := by decide +kernel
theorem dX7_tells_4 : decode cX7_tells 4 = .ok (.ifCond .ne 9, 3) := by decide +kernel
theorem dX7_tells_7 : decode cX7_tells 7 = .ok (.aload_n 0, 1) := by decide +kernel
theorem dX7_tells_8 : decode cX7_tells 8 = .ok (.iconst 5, 1) := by decide +kernel
theorem dX7_tells_9 : decode cX7_tells 9 = .ok (.invokevirtual 102, 3) := by decide +kernel
theorem dX7_tells_12 : decode cX7_tells 12 = .ok (.ireturn, 1) := by decide +kernel
theorem dX7_tells_13 : decode cX7_tells 13 = .ok (.aload_n 0, 1) := by decide +kernel
theorem dX7_tells_14 : decode cX7_tells 14 = .ok (.getfield 20, 3) := by decide +kernel
theorem dX7_tells_17 : decode cX7_tells 17 = .ok (.iload_n 1, 1) := by decide +kernel
theorem dX7_tells_18 : decode cX7_tells 18 = .ok (.invokevirtual 109, 3) := by decide +kernel
theorem dX7_tells_21 : decode cX7_tells 21 = .ok (.ifCond .eq 19, 3) := by decide +kernel
theorem dX7_tells_24 : decode cX7_tells 24 = .ok (.aload_n 0, 1) := by decide +kernel
theorem dX7_tells_25 : decode cX7_tells 25 = .ok (.getfield 20, 3) := by decide +kernel
theorem dX7_tells_28 : decode cX7_tells 28 = .ok (.iload_n 2, 1) := by decide +kernel
theorem dX7_tells_29 : decode cX7_tells 29 = .ok (.invokevirtual 109, 3) := by decide +kernel
theorem dX7_tells_32 : decode cX7_tells 32 = .ok (.ifCond .eq 8, 3) := by decide +kernel
theorem dX7_tells_35 : decode cX7_tells 35 = .ok (.iload_n 1, 1) := by decide +kernel
theorem dX7_tells_36 : decode cX7_tells 36 = .ok (.iload_n 2, 1) := by decide +kernel
theorem dX7_tells_37 : decode cX7_tells 37 = .ok (.if_icmp .ne 9, 3) := by decide +kernel
theorem dX7_tells_40 : decode cX7_tells 40 = .ok (.aload_n 0, 1) := by decide +kernel
theorem dX7_tells_41 : decode cX7_tells 41 = .ok (.iconst 1, 1) := by decide +kernel
theorem dX7_tells_42 : decode cX7_tells 42 = .ok (.invokevirtual 102, 3) := by decide +kernel
theorem dX7_tells_45 : decode cX7_tells 45 = .ok (.ireturn, 1) := by decide +kernel
theorem dX7_tells_46 : decode cX7_tells 46 = .ok (.aload_n 0, 1) := by decide +kernel
theorem dX7_tells_47 : decode cX7_tells 47 = .ok (.invokevirtual 207, 3) := by decide +kernel
theorem dX7_tells_50 : decode cX7_tells 50 = .ok (.aload_n 0, 1) := by decide +kernel
theorem dX7_tells_51 : decode cX7_tells 51 = .ok (.aload_n 0, 1) := by decide +kernel
theorem dX7_tells_52 : decode cX7_tells 52 = .ok (.getfield 89, 3) := by decide +kernel
theorem dX7_tells_55 : decode cX7_tells 55 = .ok (.aload_n 0, 1) := by decide +kernel
theorem dX7_tells_56 : decode cX7_tells 56 = .ok (.getfield 75, 3) := by decide +kernel
theorem dX7_tells_59 : decode cX7_tells 59 = .ok (.iload_n 1, 1) := by decide +kernel
theorem dX7_tells_60 : decode cX7_tells 60 = .ok (.iload_n 2, 1) := by decide +kernel
theorem dX7_tells_61 : decode cX7_tells 61 = .ok (.aload_n 0, 1) := by decide +kernel
theorem dX7_tells_62 : decode cX7_tells 62 = .ok (.getfield 55, 3) := by decide +kernel
theorem dX7_tells_65 : decode cX7_tells 65 = .ok (.invokevirtual 248, 3) := by decide +kernel
theorem dX7_tells_68 : decode cX7_tells 68 = .ok (.invokevirtual 106, 3) := by decide +kernel
theorem dX7_tells_71 : decode cX7_tells 71 = .ok (.ireturn, 1) := by decide +kernel
theorem dX7_telling_0 : decode cX7_telling 0 = .ok (.iload_n 1, 1) := by decide +kernel
theorem dX7_telling_1 : decode cX7_telling 1 = .ok (.ifCond .lt 14, 3) := by decide +kernel
theorem dX7_telling_4 : decode cX7_telling 4 = .ok (.iload_n 1, 1) := by decide +kernel
theorem dX7_telling_5 : decode cX7_telling 5 = .ok (.aload_n 0, 1) := by decide +kernel
theorem dX7_telling_6 : decode cX7_telling 6 = .ok (.getfield 89, 3) := by decide +kernel
theorem dX7_telling_9 : decode cX7_telling 9 = .ok (.getfield 252, 3) := by decide +kernel
theorem dX7_telling_12 : decode cX7_telling 12 = .ok (.if_icmp .lt 11, 3) := by decide +kernel
theorem dX7_telling_15 : decode cX7_telling 15 = .ok (.new 253, 3) := by decide +kernel
theorem dX7_telling_18 : decode cX7_telling 18 = .ok (.dup, 1) := by decide +kernel
theorem dX7_telling_19 : decode cX7_telling 19 = .ok (.invokespecial 255, 3) := by decide +kernel
theorem dX7_telling_22 : decode cX7_telling 22 = .ok (.athrow, 1) := by decide +kernel
theorem dX7_telling_23 : decode cX7_telling 23 = .ok (.aload_n 0, 1) := by decide +kernel
theorem dX7_telling_24 : decode cX7_telling 24 = .ok (.getfield 89, 3) := by decide +kernel
theorem dX7_telling_27 : decode cX7_telling 27 = .ok (.getfield 256, 3) := by decide +kernel
theorem dX7_telling_30 : decode cX7_telling 30 = .ok (.iload_n 1, 1) := by decide +kernel
theorem dX7_telling_31 : decode cX7_telling 31 = .ok (.iaload, 1) := by decide +kernel
theorem dX7_telling_32 : decode cX7_telling 32 = .ok (.ireturn, 1) := by decide +kernel
theorem dX7_count_0 : decode cX7_count 0 = .ok (.iload_n 1, 1) := by decide +kernel
theorem dX7_count_1 : decode cX7_count 1 = .ok (.tableswitch 93 0 6 #[43, 51, 56, 64, 72, 80, 88], 43) := by decide +kernel
theorem dX7_count_44 : decode cX7_count 44 = .ok (.aload_n 0, 1) := by decide +kernel
theorem dX7_count_45 : decode cX7_count 45 = .ok (.getfield 20, 3) := by decide +kernel
theorem dX7_count_48 : decode cX7_count 48 = .ok (.getfield 99, 3) := by decide +kernel
theorem dX7_count_51 : decode cX7_count 51 = .ok (.ireturn, 1) := by decide +kernel
theorem dX7_count_52 : decode cX7_count 52 = .ok (.aload_n 0, 1) := by decide +kernel
theorem dX7_count_53 : decode cX7_count 53 = .ok (.getfield 30, 3) := by decide +kernel
theorem dX7_count_56 : decode cX7_count 56 = .ok (.ireturn, 1) := by decide +kernel
theorem dX7_count_57 : decode cX7_count 57 = .ok (.aload_n 0, 1) := by decide +kernel
theorem dX7_count_58 : decode cX7_count 58 = .ok (.getfield 41, 3) := by decide +kernel
theorem dX7_count_61 : decode cX7_count 61 = .ok (.getfield 160, 3) := by decide +kernel
theorem dX7_count_64 : decode cX7_count 64 = .ok (.ireturn, 1) := by decide +kernel
theorem dX7_count_65 : decode cX7_count 65 = .ok (.aload_n 0, 1) := by decide +kernel
theorem dX7_count_66 : decode cX7_count 66 = .ok (.getfield 49, 3) := by decide +kernel
theorem dX7_count_69 : decode cX7_count 69 = .ok (.getfield 160, 3) := by decide +kernel
theorem dX7_count_72 : decode cX7_count 72 = .ok (.ireturn, 1) := by decide +kernel
theorem dX7_count_73 : decode cX7_count 73 = .ok (.aload_n 0, 1) := by decide +kernel
theorem dX7_count_74 : decode cX7_count 74 = .ok (.getfield 61, 3) := by decide +kernel
theorem dX7_count_77 : decode cX7_count 77 = .ok (.getfield 247, 3) := by decide +kernel
theorem dX7_count_80 : decode cX7_count 80 = .ok (.ireturn, 1) := by decide +kernel
theorem dX7_count_81 : decode cX7_count 81 = .ok (.aload_n 0, 1) := by decide +kernel
theorem dX7_count_82 : decode cX7_count 82 = .ok (.getfield 61, 3) := by decide +kernel
theorem dX7_count_85 : decode cX7_count 85 = .ok (.getfield 177, 3) := by decide +kernel
theorem dX7_count_88 : decode cX7_count 88 = .ok (.ireturn, 1) := by decide +kernel
theorem dX7_count_89 : decode cX7_count 89 = .ok (.aload_n 0, 1) := by decide +kernel
theorem dX7_count_90 : decode cX7_count 90 = .ok (.getfield 13, 3) := by decide +kernel
theorem dX7_count_93 : decode cX7_count 93 = .ok (.ireturn, 1) := by decide +kernel
theorem dX7_count_94 : decode cX7_count 94 = .ok (.iconst (-1), 1) := by decide +kernel
theorem dX7_count_95 : decode cX7_count 95 = .ok (.ireturn, 1) := by decide +kernel
theorem dX7_trouble_0 : decode cX7_trouble 0 = .ok (.aload_n 0, 1) := by decide +kernel
theorem dX7_trouble_1 : decode cX7_trouble 1 = .ok (.getfield 93, 3) := by decide +kernel
theorem dX7_trouble_4 : decode cX7_trouble 4 = .ok (.ireturn, 1) := by decide +kernel
theorem dX7_refuse_0 : decode cX7_refuse 0 = .ok (.aload_n 0, 1) := by decide +kernel
theorem dX7_refuse_1 : decode cX7_refuse 1 = .ok (.iload_n 1, 1) := by decide +kernel
theorem dX7_refuse_2 : decode cX7_refuse 2 = .ok (.putfield 93, 3) := by decide +kernel
theorem dX7_refuse_5 : decode cX7_refuse 5 = .ok (.iconst (-1), 1) := by decide +kernel
theorem dX7_refuse_6 : decode cX7_refuse 6 = .ok (.ireturn, 1) := by decide +kernel
theorem dX7_grant_0 : decode cX7_grant 0 = .ok (.aload_n 0, 1) := by decide +kernel
theorem dX7_grant_1 : decode cX7_grant 1 = .ok (.iconst 0, 1) := by decide +kernel
theorem dX7_grant_2 : decode cX7_grant 2 = .ok (.putfield 93, 3) := by decide +kernel
theorem dX7_grant_5 : decode cX7_grant 5 = .ok (.iload_n 1, 1) := by decide +kernel
theorem dX7_grant_6 : decode cX7_grant 6 = .ok (.ireturn, 1) := by decide +kernel
set_option maxRecDepth 100000 in
theorem ggX7_putBytes_X7_signOf : GoodIn wsX7_putBytes wsX7_signOf := goodIn_r _ [6] (by rfl) (by decide +kernel)
set_option maxRecDepth 20000 in
theorem gX7_putBytes_X7_signOf : GoodIn wsX7_putBytes (va_wsS RX7 257 yX7_signOf wsX7_signOf) := goodIn_app (goodIn_of _ (by decide +kernel)) ggX7_putBytes_X7_signOf
theorem dX7_putBytes_0 : decode cX7_putBytes 0 = .ok (.bipush 24, 2) := by decide +kernel
theorem dX7_putBytes_2 : decode cX7_putBytes 2 = .ok (.istore_n 2, 1) := by decide +kernel
theorem dX7_putBytes_3 : decode cX7_putBytes 3 = .ok (.iload_n 2, 1) := by decide +kernel
theorem dX7_putBytes_4 : decode cX7_putBytes 4 = .ok (.ifCond .lt 39, 3) := by decide +kernel
theorem dX7_putBytes_7 : decode cX7_putBytes 7 = .ok (.aload_n 0, 1) := by decide +kernel
theorem dX7_putBytes_8 : decode cX7_putBytes 8 = .ok (.getfield 9, 3) := by decide +kernel
theorem dX7_putBytes_11 : decode cX7_putBytes 11 = .ok (.aload_n 0, 1) := by decide +kernel
theorem dX7_putBytes_12 : decode cX7_putBytes 12 = .ok (.getfield 13, 3) := by decide +kernel
theorem dX7_putBytes_15 : decode cX7_putBytes 15 = .ok (.iload_n 1, 1) := by decide +kernel
theorem dX7_putBytes_16 : decode cX7_putBytes 16 = .ok (.iload_n 2, 1) := by decide +kernel
theorem dX7_putBytes_17 : decode cX7_putBytes 17 = .ok (.iushr, 1) := by decide +kernel
theorem dX7_putBytes_18 : decode cX7_putBytes 18 = .ok (.sipush 255, 3) := by decide +kernel
theorem dX7_putBytes_21 : decode cX7_putBytes 21 = .ok (.iand, 1) := by decide +kernel
theorem dX7_putBytes_22 : decode cX7_putBytes 22 = .ok (.invokestatic 257, 3) := by decide +kernel
theorem dX7_putBytes_25 : decode cX7_putBytes 25 = .ok (.i2b, 1) := by decide +kernel
theorem dX7_putBytes_26 : decode cX7_putBytes 26 = .ok (.bastore, 1) := by decide +kernel
theorem dX7_putBytes_27 : decode cX7_putBytes 27 = .ok (.aload_n 0, 1) := by decide +kernel
theorem dX7_putBytes_28 : decode cX7_putBytes 28 = .ok (.dup, 1) := by decide +kernel
theorem dX7_putBytes_29 : decode cX7_putBytes 29 = .ok (.getfield 13, 3) := by decide +kernel
theorem dX7_putBytes_32 : decode cX7_putBytes 32 = .ok (.iconst 1, 1) := by decide +kernel
theorem dX7_putBytes_33 : decode cX7_putBytes 33 = .ok (.iadd, 1) := by decide +kernel
theorem dX7_putBytes_34 : decode cX7_putBytes 34 = .ok (.putfield 13, 3) := by decide +kernel
theorem dX7_putBytes_37 : decode cX7_putBytes 37 = .ok (.iinc 2 (-8), 3) := by decide +kernel
theorem dX7_putBytes_40 : decode cX7_putBytes 40 = .ok (.goto (-37), 3) := by decide +kernel
theorem dX7_putBytes_43 : decode cX7_putBytes 43 = .ok (.return_, 1) := by decide +kernel
theorem dX7_signOf_0 : decode cX7_signOf 0 = .ok (.iload_n 0, 1) := by decide +kernel
theorem dX7_signOf_1 : decode cX7_signOf 1 = .ok (.bipush 97, 2) := by decide +kernel
theorem dX7_signOf_3 : decode cX7_signOf 3 = .ok (.if_icmp .lt 14, 3) := by decide +kernel
theorem dX7_signOf_6 : decode cX7_signOf 6 = .ok (.iload_n 0, 1) := by decide +kernel
theorem dX7_signOf_7 : decode cX7_signOf 7 = .ok (.bipush 122, 2) := by decide +kernel
theorem dX7_signOf_9 : decode cX7_signOf 9 = .ok (.if_icmp .gt 8, 3) := by decide +kernel
theorem dX7_signOf_12 : decode cX7_signOf 12 = .ok (.iload_n 0, 1) := by decide +kernel
theorem dX7_signOf_13 : decode cX7_signOf 13 = .ok (.bipush 97, 2) := by decide +kernel
theorem dX7_signOf_15 : decode cX7_signOf 15 = .ok (.isub, 1) := by decide +kernel
theorem dX7_signOf_16 : decode cX7_signOf 16 = .ok (.ireturn, 1) := by decide +kernel
theorem dX7_signOf_17 : decode cX7_signOf 17 = .ok (.iload_n 0, 1) := by decide +kernel
theorem dX7_signOf_18 : decode cX7_signOf 18 = .ok (.bipush 65, 2) := by decide +kernel
theorem dX7_signOf_20 : decode cX7_signOf 20 = .ok (.if_icmp .lt 14, 3) := by decide +kernel
theorem dX7_signOf_23 : decode cX7_signOf 23 = .ok (.iload_n 0, 1) := by decide +kernel
theorem dX7_signOf_24 : decode cX7_signOf 24 = .ok (.bipush 90, 2) := by decide +kernel
theorem dX7_signOf_26 : decode cX7_signOf 26 = .ok (.if_icmp .gt 8, 3) := by decide +kernel
theorem dX7_signOf_29 : decode cX7_signOf 29 = .ok (.iload_n 0, 1) := by decide +kernel
theorem dX7_signOf_30 : decode cX7_signOf 30 = .ok (.bipush 65, 2) := by decide +kernel
theorem dX7_signOf_32 : decode cX7_signOf 32 = .ok (.isub, 1) := by decide +kernel
theorem dX7_signOf_33 : decode cX7_signOf 33 = .ok (.ireturn, 1) := by decide +kernel
theorem dX7_signOf_34 : decode cX7_signOf 34 = .ok (.iload_n 0, 1) := by decide +kernel
theorem dX7_signOf_35 : decode cX7_signOf 35 = .ok (.bipush 48, 2) := by decide +kernel
theorem dX7_signOf_37 : decode cX7_signOf 37 = .ok (.if_icmp .lt 12, 3) := by decide +kernel
theorem dX7_signOf_40 : decode cX7_signOf 40 = .ok (.iload_n 0, 1) := by decide +kernel
theorem dX7_signOf_41 : decode cX7_signOf 41 = .ok (.bipush 57, 2) := by decide +kernel
theorem dX7_signOf_43 : decode cX7_signOf 43 = .ok (.if_icmp .gt 6, 3) := by decide +kernel
theorem dX7_signOf_46 : decode cX7_signOf 46 = .ok (.bipush 28, 2) := by decide +kernel
theorem dX7_signOf_48 : decode cX7_signOf 48 = .ok (.ireturn, 1) := by decide +kernel
theorem dX7_signOf_49 : decode cX7_signOf 49 = .ok (.iload_n 0, 1) := by decide +kernel
theorem dX7_signOf_50 : decode cX7_signOf 50 = .ok (.bipush 39, 2) := by decide +kernel
theorem dX7_signOf_52 : decode cX7_signOf 52 = .ok (.if_icmp .ne 8, 3) := by decide +kernel
theorem dX7_signOf_55 : decode cX7_signOf 55 = .ok (.bipush 26, 2) := by decide +kernel
theorem dX7_signOf_57 : decode cX7_signOf 57 = .ok (.goto 5, 3) := by decide +kernel
theorem dX7_signOf_60 : decode cX7_signOf 60 = .ok (.bipush 29, 2) := by decide +kernel
theorem dX7_signOf_62 : decode cX7_signOf 62 = .ok (.ireturn, 1) := by decide +kernel
theorem dX7_isSign_0 : decode cX7_isSign 0 = .ok (.iload_n 0, 1) := by decide +kernel
theorem dX7_isSign_1 : decode cX7_isSign 1 = .ok (.ifCond .lt 13, 3) := by decide +kernel
theorem dX7_isSign_4 : decode cX7_isSign 4 = .ok (.iload_n 0, 1) := by decide +kernel
theorem dX7_isSign_5 : decode cX7_isSign 5 = .ok (.bipush 28, 2) := by decide +kernel
theorem dX7_isSign_7 : decode cX7_isSign 7 = .ok (.if_icmp .ge 7, 3) := by decide +kernel
theorem dX7_isSign_10 : decode cX7_isSign 10 = .ok (.iconst 1, 1) := by decide +kernel
theorem dX7_isSign_11 : decode cX7_isSign 11 = .ok (.goto 4, 3) := by decide +kernel
theorem dX7_isSign_14 : decode cX7_isSign 14 = .ok (.iconst 0, 1) := by decide +kernel
theorem dX7_isSign_15 : decode cX7_isSign 15 = .ok (.ireturn, 1) := by decide +kernel
theorem dX7_isOnTape_0 : decode cX7_isOnTape 0 = .ok (.iload_n 1, 1) := by decide +kernel
theorem dX7_isOnTape_1 : decode cX7_isOnTape 1 = .ok (.ifCond .lt 15, 3) := by decide +kernel
theorem dX7_isOnTape_4 : decode cX7_isOnTape 4 = .ok (.iload_n 1, 1) := by decide +kernel
theorem dX7_isOnTape_5 : decode cX7_isOnTape 5 = .ok (.aload_n 0, 1) := by decide +kernel
theorem dX7_isOnTape_6 : decode cX7_isOnTape 6 = .ok (.getfield 13, 3) := by decide +kernel
theorem dX7_isOnTape_9 : decode cX7_isOnTape 9 = .ok (.if_icmp .gt 7, 3) := by decide +kernel
theorem dX7_isOnTape_12 : decode cX7_isOnTape 12 = .ok (.iconst 1, 1) := by decide +kernel
theorem dX7_isOnTape_13 : decode cX7_isOnTape 13 = .ok (.goto 4, 3) := by decide +kernel
theorem dX7_isOnTape_16 : decode cX7_isOnTape 16 = .ok (.iconst 0, 1) := by decide +kernel
theorem dX7_isOnTape_17 : decode cX7_isOnTape 17 = .ok (.ireturn, 1) := by decide +kernel
set_option maxRecDepth 100000 in
theorem ggX7_draftFromTape_X2_empty : GoodIn wsX7_draftFromTape wsX2_empty := goodIn_r _ [6, 7, 8, 64, 65, 66, 67, 68] (by rfl) (by decide +kernel)
set_option maxRecDepth 20000 in
theorem gX7_draftFromTape_X2_empty : GoodIn wsX7_draftFromTape (wsV RX7 171 RX2 yX2_empty wsX2_empty) := goodIn_app (goodIn_of _ (by decide +kernel)) ggX7_draftFromTape_X2_empty
set_option maxRecDepth 100000 in
theorem ggX7_draftFromTape_X7_tapeBehindDraft : GoodIn wsX7_draftFromTape wsX7_tapeBehindDraft := goodIn_r _ [13, 14, 1, 15, 16, 17, 18, 5, 19, 20, 7, 21, 22, 23, 24, 25, 26, 27, 28, 8, 29, 30, 31, 32, 33, 34, 35, 36, 37, 38, 39, 40, 41, 42, 43, 44, 45, 46, 47, 48, 49, 50, 51, 52, 53, 54, 55, 56, 57, 58, 59, 60, 61, 62, 63, 64, 65, 66, 67, 68] (by rfl) (by decide +kernel)
set_option maxRecDepth 20000 in
theorem gX7_draftFromTape_X7_tapeBehindDraft : GoodIn wsX7_draftFromTape (wsV RX7 182 RX7 yX7_tapeBehindDraft wsX7_tapeBehindDraft) := goodIn_app (goodIn_of _ (by decide +kernel)) ggX7_draftFromTape_X7_tapeBehindDraft
theorem dX7_draftFromTape_0 : decode cX7_draftFromTape 0 = .ok (.aload_n 0, 1) := by decide +kernel
theorem dX7_draftFromTape_1 : decode cX7_draftFromTape 1 = .ok (.getfield 65, 3) := by decide +kernel
theorem dX7_draftFromTape_4 : decode cX7_draftFromTape 4 = .ok (.invokevirtual 171, 3) := by decide +kernel
theorem dX7_draftFromTape_7 : decode cX7_draftFromTape 7 = .ok (.aload_n 0, 1) := by decide +kernel
theorem dX7_draftFromTape_8 : decode cX7_draftFromTape 8 = .ok (.iload_n 1, 1) := by decide +kernel
theorem dX7_draftFromTape_9 : decode cX7_draftFromTape 9 = .ok (.invokevirtual 182, 3) := by decide +kernel
theorem dX7_draftFromTape_12 : decode cX7_draftFromTape 12 = .ok (.ireturn, 1) := by decide +kernel
set_option maxRecDepth 100000 in
theorem ggX7_tapeBehindDraft_X2_append : GoodIn wsX7_tapeBehindDraft wsX2_append := goodIn_r _ [8, 9, 10, 11, 12, 13, 14, 55, 56, 57, 58, 59] (by rfl) (by decide +kernel)
set_option maxRecDepth 20000 in
theorem gX7_tapeBehindDraft_X2_append : GoodIn wsX7_tapeBehindDraft (wsV RX7 178 RX2 yX2_append wsX2_append) := goodIn_app (goodIn_of _ (by decide +kernel)) ggX7_tapeBehindDraft_X2_append
set_option maxRecDepth 100000 in
theorem ggX7_tapeBehindDraft_X2_findWords : GoodIn wsX7_tapeBehindDraft wsX2_findWords := goodIn_r _ [18, 19, 10, 20, 21, 22, 23, 24, 7, 25, 9, 26, 27, 28, 29, 30, 31, 32, 33, 34, 35, 36, 55, 56, 57, 58, 59] (by rfl) (by decide +kernel)
set_option maxRecDepth 20000 in
theorem gX7_tapeBehindDraft_X2_findWords : GoodIn wsX7_tapeBehindDraft (wsV RX7 260 RX2 yX2_findWords wsX2_findWords) := goodIn_app (goodIn_of _ (by decide +kernel)) ggX7_tapeBehindDraft_X2_findWords
theorem dX7_tapeBehindDraft_0 : decode cX7_tapeBehindDraft 0 = .ok (.aload_n 0, 1) := by decide +kernel
theorem dX7_tapeBehindDraft_1 : decode cX7_tapeBehindDraft 1 = .ok (.iconst 0, 1) := by decide +kernel
theorem dX7_tapeBehindDraft_2 : decode cX7_tapeBehindDraft 2 = .ok (.putfield 13, 3) := by decide +kernel
theorem dX7_tapeBehindDraft_5 : decode cX7_tapeBehindDraft 5 = .ok (.aload_n 0, 1) := by decide +kernel
theorem dX7_tapeBehindDraft_6 : decode cX7_tapeBehindDraft 6 = .ok (.getfield 65, 3) := by decide +kernel
theorem dX7_tapeBehindDraft_9 : decode cX7_tapeBehindDraft 9 = .ok (.aload_n 0, 1) := by decide +kernel
theorem dX7_tapeBehindDraft_10 : decode cX7_tapeBehindDraft 10 = .ok (.getfield 9, 3) := by decide +kernel
theorem dX7_tapeBehindDraft_13 : decode cX7_tapeBehindDraft 13 = .ok (.iload_n 1, 1) := by decide +kernel
theorem dX7_tapeBehindDraft_14 : decode cX7_tapeBehindDraft 14 = .ok (.invokevirtual 178, 3) := by decide +kernel
theorem dX7_tapeBehindDraft_17 : decode cX7_tapeBehindDraft 17 = .ok (.ifCond .eq 17, 3) := by decide +kernel
theorem dX7_tapeBehindDraft_20 : decode cX7_tapeBehindDraft 20 = .ok (.aload_n 0, 1) := by decide +kernel
theorem dX7_tapeBehindDraft_21 : decode cX7_tapeBehindDraft 21 = .ok (.getfield 65, 3) := by decide +kernel
theorem dX7_tapeBehindDraft_24 : decode cX7_tapeBehindDraft 24 = .ok (.invokevirtual 260, 3) := by decide +kernel
theorem dX7_tapeBehindDraft_27 : decode cX7_tapeBehindDraft 27 = .ok (.ifCond .eq 7, 3) := by decide +kernel
theorem dX7_tapeBehindDraft_30 : decode cX7_tapeBehindDraft 30 = .ok (.iconst 1, 1) := by decide +kernel
theorem dX7_tapeBehindDraft_31 : decode cX7_tapeBehindDraft 31 = .ok (.goto 4, 3) := by decide +kernel
theorem dX7_tapeBehindDraft_34 : decode cX7_tapeBehindDraft 34 = .ok (.iconst 0, 1) := by decide +kernel
theorem dX7_tapeBehindDraft_35 : decode cX7_tapeBehindDraft 35 = .ok (.ireturn, 1) := by decide +kernel
set_option maxRecDepth 100000 in
theorem ggX7_draftIsOneWord_X7_draftFromTape : GoodIn wsX7_draftIsOneWord wsX7_draftFromTape := goodIn_r _ [7, 1, 8, 9, 10, 11, 12, 13, 14, 15, 16, 17, 6, 18, 19, 20, 21, 22, 23, 24, 25, 26, 27, 28, 29, 30, 31, 32, 33, 34, 35, 36, 37, 38, 39, 40, 41, 42, 43, 44, 45, 46, 47, 48, 49, 50, 55, 56, 57, 58, 59, 60, 61, 62, 63, 64, 65, 66, 67, 68, 69, 70, 71, 72, 73, 74, 75, 76, 77] (by rfl) (by decide +kernel)
set_option maxRecDepth 20000 in
theorem gX7_draftIsOneWord_X7_draftFromTape : GoodIn wsX7_draftIsOneWord (wsV RX7 116 RX7 yX7_draftFromTape wsX7_draftFromTape) := goodIn_app (goodIn_of _ (by decide +kernel)) ggX7_draftIsOneWord_X7_draftFromTape
set_option maxRecDepth 100000 in
theorem ggX7_draftIsOneWord_X2_isMark : GoodIn wsX7_draftIsOneWord wsX2_isMark := goodIn_r _ [54, 25, 34, 73, 74, 75, 76, 77] (by rfl) (by decide +kernel)
set_option maxRecDepth 20000 in
theorem gX7_draftIsOneWord_X2_isMark : GoodIn wsX7_draftIsOneWord (wsV RX7 263 RX2 yX2_isMark wsX2_isMark) := goodIn_app (goodIn_of _ (by decide +kernel)) ggX7_draftIsOneWord_X2_isMark
theorem dX7_draftIsOneWord_0 : decode cX7_draftIsOneWord 0 = .ok (.aload_n 0, 1) := by decide +kernel
theorem dX7_draftIsOneWord_1 : decode cX7_draftIsOneWord 1 = .ok (.iload_n 1, 1) := by decide +kernel
theorem dX7_draftIsOneWord_2 : decode cX7_draftIsOneWord 2 = .ok (.invokevirtual 116, 3) := by decide +kernel
theorem dX7_draftIsOneWord_5 : decode cX7_draftIsOneWord 5 = .ok (.ifCond .eq 29, 3) := by decide +kernel
theorem dX7_draftIsOneWord_8 : decode cX7_draftIsOneWord 8 = .ok (.aload_n 0, 1) := by decide +kernel
theorem dX7_draftIsOneWord_9 : decode cX7_draftIsOneWord 9 = .ok (.getfield 65, 3) := by decide +kernel
theorem dX7_draftIsOneWord_12 : decode cX7_draftIsOneWord 12 = .ok (.getfield 247, 3) := by decide +kernel
theorem dX7_draftIsOneWord_15 : decode cX7_draftIsOneWord 15 = .ok (.iconst 1, 1) := by decide +kernel
theorem dX7_draftIsOneWord_16 : decode cX7_draftIsOneWord 16 = .ok (.if_icmp .ne 18, 3) := by decide +kernel
theorem dX7_draftIsOneWord_19 : decode cX7_draftIsOneWord 19 = .ok (.aload_n 0, 1) := by decide +kernel
theorem dX7_draftIsOneWord_20 : decode cX7_draftIsOneWord 20 = .ok (.getfield 65, 3) := by decide +kernel
theorem dX7_draftIsOneWord_23 : decode cX7_draftIsOneWord 23 = .ok (.iconst 0, 1) := by decide +kernel
theorem dX7_draftIsOneWord_24 : decode cX7_draftIsOneWord 24 = .ok (.invokevirtual 263, 3) := by decide +kernel
theorem dX7_draftIsOneWord_27 : decode cX7_draftIsOneWord 27 = .ok (.ifCond .ne 7, 3) := by decide +kernel
theorem dX7_draftIsOneWord_30 : decode cX7_draftIsOneWord 30 = .ok (.iconst 1, 1) := by decide +kernel
theorem dX7_draftIsOneWord_31 : decode cX7_draftIsOneWord 31 = .ok (.goto 4, 3) := by decide +kernel
theorem dX7_draftIsOneWord_34 : decode cX7_draftIsOneWord 34 = .ok (.iconst 0, 1) := by decide +kernel
theorem dX7_draftIsOneWord_35 : decode cX7_draftIsOneWord 35 = .ok (.ireturn, 1) := by decide +kernel
set_option maxRecDepth 100000 in
theorem ggX7_draftBecomesText_X7_grant : GoodIn wsX7_draftBecomesText wsX7_grant := goodIn_r _ [9, 10, 11, 12, 13, 14, 15, 16, 17, 18, 19, 20, 21, 22, 23, 24, 25, 26, 27, 28] (by rfl) (by decide +kernel)
set_option maxRecDepth 20000 in
theorem gX7_draftBecomesText_X7_grant : GoodIn wsX7_draftBecomesText (wsV RX7 106 RX7 yX7_grant wsX7_grant) := goodIn_app (goodIn_of _ (by decide +kernel)) ggX7_draftBecomesText_X7_grant
theorem dX7_draftBecomesText_0 : decode cX7_draftBecomesText 0 = .ok (.aload_n 0, 1) := by decide +kernel
theorem dX7_draftBecomesText_1 : decode cX7_draftBecomesText 1 = .ok (.getfield 61, 3) := by decide +kernel
theorem dX7_draftBecomesText_4 : decode cX7_draftBecomesText 4 = .ok (.astore_n 1, 1) := by decide +kernel
theorem dX7_draftBecomesText_5 : decode cX7_draftBecomesText 5 = .ok (.aload_n 0, 1) := by decide +kernel
theorem dX7_draftBecomesText_6 : decode cX7_draftBecomesText 6 = .ok (.aload_n 0, 1) := by decide +kernel
theorem dX7_draftBecomesText_7 : decode cX7_draftBecomesText 7 = .ok (.getfield 65, 3) := by decide +kernel
theorem dX7_draftBecomesText_10 : decode cX7_draftBecomesText 10 = .ok (.putfield 61, 3) := by decide +kernel
theorem dX7_draftBecomesText_13 : decode cX7_draftBecomesText 13 = .ok (.aload_n 0, 1) := by decide +kernel
theorem dX7_draftBecomesText_14 : decode cX7_draftBecomesText 14 = .ok (.aload_n 1, 1) := by decide +kernel
theorem dX7_draftBecomesText_15 : decode cX7_draftBecomesText 15 = .ok (.putfield 65, 3) := by decide +kernel
theorem dX7_draftBecomesText_18 : decode cX7_draftBecomesText 18 = .ok (.aload_n 0, 1) := by decide +kernel
theorem dX7_draftBecomesText_19 : decode cX7_draftBecomesText 19 = .ok (.iconst 1, 1) := by decide +kernel
theorem dX7_draftBecomesText_20 : decode cX7_draftBecomesText 20 = .ok (.putfield 68, 3) := by decide +kernel
theorem dX7_draftBecomesText_23 : decode cX7_draftBecomesText 23 = .ok (.aload_n 0, 1) := by decide +kernel
theorem dX7_draftBecomesText_24 : decode cX7_draftBecomesText 24 = .ok (.aload_n 0, 1) := by decide +kernel
theorem dX7_draftBecomesText_25 : decode cX7_draftBecomesText 25 = .ok (.getfield 61, 3) := by decide +kernel
theorem dX7_draftBecomesText_28 : decode cX7_draftBecomesText 28 = .ok (.getfield 247, 3) := by decide +kernel
theorem dX7_draftBecomesText_31 : decode cX7_draftBecomesText 31 = .ok (.invokevirtual 106, 3) := by decide +kernel
theorem dX7_draftBecomesText_34 : decode cX7_draftBecomesText 34 = .ok (.ireturn, 1) := by decide +kernel
