theorem dX8_text_41 : decode cX8_text 41 = .ok (.iconst 3, 1) := by decide +kernel
theorem dX8_text_42 : decode cX8_text 42 = .ok (.invokevirtual 136, 3) := by decide +kernel
theorem dX8_text_45 : decode cX8_text 45 = .ok (.ireturn, 1) := by decide +kernel
theorem dX8_text_46 : decode cX8_text 46 = .ok (.iconst 0, 1) := by decide +kernel
theorem dX8_text_47 : decode cX8_text 47 = .ok (.istore_n 3, 1) := by decide +kernel
theorem dX8_text_48 : decode cX8_text 48 = .ok (.iload_n 3, 1) := by decide +kernel
theorem dX8_text_49 : decode cX8_text 49 = .ok (.iload_n 1, 1) := by decide +kernel
theorem dX8_text_50 : decode cX8_text 50 = .ok (.if_icmp .ge 21, 3) := by decide +kernel
theorem dX8_text_53 : decode cX8_text 53 = .ok (.aload_n 0, 1) := by decide +kernel
theorem dX8_text_54 : decode cX8_text 54 = .ok (.getfield 65, 3) := by decide +kernel
theorem dX8_text_57 : decode cX8_text 57 = .ok (.iload_n 3, 1) := by decide +kernel
theorem dX8_text_58 : decode cX8_text 58 = .ok (.aload_n 0, 1) := by decide +kernel
theorem dX8_text_59 : decode cX8_text 59 = .ok (.getfield 11, 3) := by decide +kernel
theorem dX8_text_62 : decode cX8_text 62 = .ok (.iload_n 3, 1) := by decide +kernel
theorem dX8_text_63 : decode cX8_text 63 = .ok (.baload, 1) := by decide +kernel
theorem dX8_text_64 : decode cX8_text 64 = .ok (.bastore, 1) := by decide +kernel
theorem dX8_text_65 : decode cX8_text 65 = .ok (.iinc 3 1, 3) := by decide +kernel
theorem dX8_text_68 : decode cX8_text 68 = .ok (.goto (-20), 3) := by decide +kernel
theorem dX8_text_71 : decode cX8_text 71 = .ok (.aload_n 0, 1) := by decide +kernel
theorem dX8_text_72 : decode cX8_text 72 = .ok (.iload_n 1, 1) := by decide +kernel
theorem dX8_text_73 : decode cX8_text 73 = .ok (.putfield 172, 3) := by decide +kernel
theorem dX8_text_76 : decode cX8_text 76 = .ok (.aload_n 0, 1) := by decide +kernel
theorem dX8_text_77 : decode cX8_text 77 = .ok (.iload_n 2, 1) := by decide +kernel
theorem dX8_text_78 : decode cX8_text 78 = .ok (.putfield 175, 3) := by decide +kernel
theorem dX8_text_81 : decode cX8_text 81 = .ok (.aload_n 0, 1) := by decide +kernel
theorem dX8_text_82 : decode cX8_text 82 = .ok (.iconst 1, 1) := by decide +kernel
theorem dX8_text_83 : decode cX8_text 83 = .ok (.putfield 178, 3) := by decide +kernel
theorem dX8_text_86 : decode cX8_text 86 = .ok (.aload_n 0, 1) := by decide +kernel
theorem dX8_text_87 : decode cX8_text 87 = .ok (.iload_n 2, 1) := by decide +kernel
theorem dX8_text_88 : decode cX8_text 88 = .ok (.invokevirtual 139, 3) := by decide +kernel
theorem dX8_text_91 : decode cX8_text 91 = .ok (.ireturn, 1) := by decide +kernel
set_option maxRecDepth 100000 in
theorem ggX8_more_X8_isTaped : GoodIn wsX8_more wsX8_isTaped := goodIn_r _ [13, 2, 36, 37, 38, 39, 40, 41, 42, 43, 44, 45, 46, 47, 48, 49, 50, 51, 52, 53, 54, 55, 56, 57, 58, 59, 60, 61, 62, 63, 64, 65, 66, 67, 68, 69, 70, 71, 72, 73] (by rfl) (by decide +kernel)
set_option maxRecDepth 20000 in
theorem gX8_more_X8_isTaped : GoodIn wsX8_more (wsV RX8 145 RX8 yX8_isTaped wsX8_isTaped) := goodIn_app (goodIn_of _ (by decide +kernel)) ggX8_more_X8_isTaped
set_option maxRecDepth 100000 in
theorem ggX8_more_X8_refused : GoodIn wsX8_more wsX8_refused := goodIn_r _ [17, 18, 36, 37, 38, 39, 40, 41, 42, 43, 44, 45, 46, 47, 48, 49, 50, 51, 52, 53, 54, 55, 56, 57, 58, 59, 60, 61, 62, 63, 64, 65, 66, 67, 68, 69, 70, 71, 72, 73] (by rfl) (by decide +kernel)
set_option maxRecDepth 20000 in
theorem gX8_more_X8_refused : GoodIn wsX8_more (wsV RX8 136 RX8 yX8_refused wsX8_refused) := goodIn_app (goodIn_of _ (by decide +kernel)) ggX8_more_X8_refused
set_option maxRecDepth 100000 in
theorem ggX8_more_X8_cut : GoodIn wsX8_more wsX8_cut := goodIn_r _ [22, 23, 24, 25, 26, 27, 12, 28, 29, 30, 31, 36, 37, 38, 39, 40, 41, 42, 43, 44, 45, 46, 47, 48, 49, 50, 51, 52, 53, 54, 55, 56, 57, 58, 59, 60, 61, 62, 63, 64, 65, 66, 67, 68, 69, 70, 71, 72, 73] (by rfl) (by decide +kernel)
set_option maxRecDepth 20000 in
theorem gX8_more_X8_cut : GoodIn wsX8_more (wsV RX8 148 RX8 yX8_cut wsX8_cut) := goodIn_app (goodIn_of _ (by decide +kernel)) ggX8_more_X8_cut
set_option maxRecDepth 100000 in
theorem ggX8_more_X8_done : GoodIn wsX8_more wsX8_done := goodIn_r _ [35, 18, 36, 37, 38, 39, 40, 41, 42, 43, 44, 45, 46, 47, 48, 49, 50, 51, 52, 53, 54, 55, 56, 57, 58, 59, 60, 61, 62, 63, 64, 65, 66, 67, 68, 69, 70, 71, 72, 73] (by rfl) (by decide +kernel)
set_option maxRecDepth 20000 in
theorem gX8_more_X8_done : GoodIn wsX8_more (wsV RX8 139 RX8 yX8_done wsX8_done) := goodIn_app (goodIn_of _ (by decide +kernel)) ggX8_more_X8_done
theorem dX8_more_0 : decode cX8_more 0 = .ok (.aload_n 0, 1) := by decide +kernel
theorem dX8_more_1 : decode cX8_more 1 = .ok (.iconst 0, 1) := by decide +kernel
theorem dX8_more_2 : decode cX8_more 2 = .ok (.putfield 97, 3) := by decide +kernel
theorem dX8_more_5 : decode cX8_more 5 = .ok (.aload_n 0, 1) := by decide +kernel
theorem dX8_more_6 : decode cX8_more 6 = .ok (.iload_n 1, 1) := by decide +kernel
theorem dX8_more_7 : decode cX8_more 7 = .ok (.invokevirtual 145, 3) := by decide +kernel
theorem dX8_more_10 : decode cX8_more 10 = .ok (.ifCond .ne 9, 3) := by decide +kernel
theorem dX8_more_13 : decode cX8_more 13 = .ok (.aload_n 0, 1) := by decide +kernel
theorem dX8_more_14 : decode cX8_more 14 = .ok (.iconst 2, 1) := by decide +kernel
theorem dX8_more_15 : decode cX8_more 15 = .ok (.invokevirtual 136, 3) := by decide +kernel
theorem dX8_more_18 : decode cX8_more 18 = .ok (.ireturn, 1) := by decide +kernel
theorem dX8_more_19 : decode cX8_more 19 = .ok (.aload_n 0, 1) := by decide +kernel
theorem dX8_more_20 : decode cX8_more 20 = .ok (.iconst 0, 1) := by decide +kernel
theorem dX8_more_21 : decode cX8_more 21 = .ok (.putfield 103, 3) := by decide +kernel
theorem dX8_more_24 : decode cX8_more 24 = .ok (.aload_n 0, 1) := by decide +kernel
theorem dX8_more_25 : decode cX8_more 25 = .ok (.getfield 172, 3) := by decide +kernel
theorem dX8_more_28 : decode cX8_more 28 = .ok (.iload_n 1, 1) := by decide +kernel
theorem dX8_more_29 : decode cX8_more 29 = .ok (.iadd, 1) := by decide +kernel
theorem dX8_more_30 : decode cX8_more 30 = .ok (.sipush 600, 3) := by decide +kernel
theorem dX8_more_33 : decode cX8_more 33 = .ok (.if_icmp .le 9, 3) := by decide +kernel
theorem dX8_more_36 : decode cX8_more 36 = .ok (.aload_n 0, 1) := by decide +kernel
theorem dX8_more_37 : decode cX8_more 37 = .ok (.iconst 3, 1) := by decide +kernel
theorem dX8_more_38 : decode cX8_more 38 = .ok (.invokevirtual 136, 3) := by decide +kernel
theorem dX8_more_41 : decode cX8_more 41 = .ok (.ireturn, 1) := by decide +kernel
theorem dX8_more_42 : decode cX8_more 42 = .ok (.iconst 0, 1) := by decide +kernel
theorem dX8_more_43 : decode cX8_more 43 = .ok (.istore_n 2, 1) := by decide +kernel
theorem dX8_more_44 : decode cX8_more 44 = .ok (.iload_n 2, 1) := by decide +kernel
theorem dX8_more_45 : decode cX8_more 45 = .ok (.aload_n 0, 1) := by decide +kernel
theorem dX8_more_46 : decode cX8_more 46 = .ok (.getfield 172, 3) := by decide +kernel
theorem dX8_more_49 : decode cX8_more 49 = .ok (.iload_n 1, 1) := by decide +kernel
theorem dX8_more_50 : decode cX8_more 50 = .ok (.iadd, 1) := by decide +kernel
theorem dX8_more_51 : decode cX8_more 51 = .ok (.if_icmp .ge 43, 3) := by decide +kernel
theorem dX8_more_54 : decode cX8_more 54 = .ok (.aload_n 0, 1) := by decide +kernel
theorem dX8_more_55 : decode cX8_more 55 = .ok (.getfield 68, 3) := by decide +kernel
theorem dX8_more_58 : decode cX8_more 58 = .ok (.iload_n 2, 1) := by decide +kernel
theorem dX8_more_59 : decode cX8_more 59 = .ok (.iload_n 2, 1) := by decide +kernel
theorem dX8_more_60 : decode cX8_more 60 = .ok (.aload_n 0, 1) := by decide +kernel
theorem dX8_more_61 : decode cX8_more 61 = .ok (.getfield 172, 3) := by decide +kernel
theorem dX8_more_64 : decode cX8_more 64 = .ok (.if_icmp .ge 12, 3) := by decide +kernel
theorem dX8_more_67 : decode cX8_more 67 = .ok (.aload_n 0, 1) := by decide +kernel
theorem dX8_more_68 : decode cX8_more 68 = .ok (.getfield 65, 3) := by decide +kernel
theorem dX8_more_71 : decode cX8_more 71 = .ok (.iload_n 2, 1) := by decide +kernel
theorem dX8_more_72 : decode cX8_more 72 = .ok (.baload, 1) := by decide +kernel
theorem dX8_more_73 : decode cX8_more 73 = .ok (.goto 14, 3) := by decide +kernel
theorem dX8_more_76 : decode cX8_more 76 = .ok (.aload_n 0, 1) := by decide +kernel
theorem dX8_more_77 : decode cX8_more 77 = .ok (.getfield 11, 3) := by decide +kernel
theorem dX8_more_80 : decode cX8_more 80 = .ok (.iload_n 2, 1) := by decide +kernel
theorem dX8_more_81 : decode cX8_more 81 = .ok (.aload_n 0, 1) := by decide +kernel
theorem dX8_more_82 : decode cX8_more 82 = .ok (.getfield 172, 3) := by decide +kernel
theorem dX8_more_85 : decode cX8_more 85 = .ok (.isub, 1) := by decide +kernel
theorem dX8_more_86 : decode cX8_more 86 = .ok (.baload, 1) := by decide +kernel
theorem dX8_more_87 : decode cX8_more 87 = .ok (.bastore, 1) := by decide +kernel
theorem dX8_more_88 : decode cX8_more 88 = .ok (.iinc 2 1, 3) := by decide +kernel
theorem dX8_more_91 : decode cX8_more 91 = .ok (.goto (-47), 3) := by decide +kernel
theorem dX8_more_94 : decode cX8_more 94 = .ok (.aload_n 0, 1) := by decide +kernel
theorem dX8_more_95 : decode cX8_more 95 = .ok (.aload_n 0, 1) := by decide +kernel
theorem dX8_more_96 : decode cX8_more 96 = .ok (.getfield 68, 3) := by decide +kernel
theorem dX8_more_99 : decode cX8_more 99 = .ok (.aload_n 0, 1) := by decide +kernel
theorem dX8_more_100 : decode cX8_more 100 = .ok (.getfield 172, 3) := by decide +kernel
theorem dX8_more_103 : decode cX8_more 103 = .ok (.iload_n 1, 1) := by decide +kernel
theorem dX8_more_104 : decode cX8_more 104 = .ok (.iadd, 1) := by decide +kernel
theorem dX8_more_105 : decode cX8_more 105 = .ok (.invokevirtual 148, 3) := by decide +kernel
theorem dX8_more_108 : decode cX8_more 108 = .ok (.istore_n 2, 1) := by decide +kernel
theorem dX8_more_109 : decode cX8_more 109 = .ok (.iload_n 2, 1) := by decide +kernel
theorem dX8_more_110 : decode cX8_more 110 = .ok (.bipush 60, 2) := by decide +kernel
theorem dX8_more_112 : decode cX8_more 112 = .ok (.if_icmp .le 9, 3) := by decide +kernel
theorem dX8_more_115 : decode cX8_more 115 = .ok (.aload_n 0, 1) := by decide +kernel
theorem dX8_more_116 : decode cX8_more 116 = .ok (.iconst 3, 1) := by decide +kernel
theorem dX8_more_117 : decode cX8_more 117 = .ok (.invokevirtual 136, 3) := by decide +kernel
theorem dX8_more_120 : decode cX8_more 120 = .ok (.ireturn, 1) := by decide +kernel
theorem dX8_more_121 : decode cX8_more 121 = .ok (.aload_n 0, 1) := by decide +kernel
theorem dX8_more_122 : decode cX8_more 122 = .ok (.getfield 65, 3) := by decide +kernel
theorem dX8_more_125 : decode cX8_more 125 = .ok (.astore_n 3, 1) := by decide +kernel
theorem dX8_more_126 : decode cX8_more 126 = .ok (.aload_n 0, 1) := by decide +kernel
theorem dX8_more_127 : decode cX8_more 127 = .ok (.aload_n 0, 1) := by decide +kernel
theorem dX8_more_128 : decode cX8_more 128 = .ok (.getfield 68, 3) := by decide +kernel
theorem dX8_more_131 : decode cX8_more 131 = .ok (.putfield 65, 3) := by decide +kernel
theorem dX8_more_134 : decode cX8_more 134 = .ok (.aload_n 0, 1) := by decide +kernel
theorem dX8_more_135 : decode cX8_more 135 = .ok (.aload_n 3, 1) := by decide +kernel
theorem dX8_more_136 : decode cX8_more 136 = .ok (.putfield 68, 3) := by decide +kernel
theorem dX8_more_139 : decode cX8_more 139 = .ok (.aload_n 0, 1) := by decide +kernel
theorem dX8_more_140 : decode cX8_more 140 = .ok (.dup, 1) := by decide +kernel
theorem dX8_more_141 : decode cX8_more 141 = .ok (.getfield 172, 3) := by decide +kernel
theorem dX8_more_144 : decode cX8_more 144 = .ok (.iload_n 1, 1) := by decide +kernel
theorem dX8_more_145 : decode cX8_more 145 = .ok (.iadd, 1) := by decide +kernel
theorem dX8_more_146 : decode cX8_more 146 = .ok (.putfield 172, 3) := by decide +kernel
theorem dX8_more_149 : decode cX8_more 149 = .ok (.aload_n 0, 1) := by decide +kernel
theorem dX8_more_150 : decode cX8_more 150 = .ok (.iload_n 2, 1) := by decide +kernel
theorem dX8_more_151 : decode cX8_more 151 = .ok (.putfield 175, 3) := by decide +kernel
theorem dX8_more_154 : decode cX8_more 154 = .ok (.aload_n 0, 1) := by decide +kernel
theorem dX8_more_155 : decode cX8_more 155 = .ok (.iconst 1, 1) := by decide +kernel
theorem dX8_more_156 : decode cX8_more 156 = .ok (.putfield 178, 3) := by decide +kernel
theorem dX8_more_159 : decode cX8_more 159 = .ok (.aload_n 0, 1) := by decide +kernel
theorem dX8_more_160 : decode cX8_more 160 = .ok (.iload_n 2, 1) := by decide +kernel
theorem dX8_more_161 : decode cX8_more 161 = .ok (.invokevirtual 139, 3) := by decide +kernel
theorem dX8_more_164 : decode cX8_more 164 = .ok (.ireturn, 1) := by decide +kernel
set_option maxRecDepth 100000 in
theorem ggX8_cuts_X8_cut : GoodIn wsX8_cuts wsX8_cut := goodIn_r _ [7, 8, 9, 10, 11, 12, 6, 13, 14, 15, 16, 17, 18, 19, 20, 21, 22, 23, 24, 25, 26, 27, 28, 29, 30, 31, 32, 33, 34, 35, 36, 37, 38, 39, 40, 41, 42, 43, 44, 45, 46, 47, 48, 49, 50, 51, 52, 53, 54] (by rfl) (by decide +kernel)
set_option maxRecDepth 20000 in
theorem gX8_cuts_X8_cut : GoodIn wsX8_cuts (wsV RX8 148 RX8 yX8_cut wsX8_cut) := goodIn_app (goodIn_of _ (by decide +kernel)) ggX8_cuts_X8_cut
theorem dX8_cuts_0 : decode cX8_cuts 0 = .ok (.aload_n 0, 1) := by decide +kernel
theorem dX8_cuts_1 : decode cX8_cuts 1 = .ok (.aload_n 0, 1) := by decide +kernel
theorem dX8_cuts_2 : decode cX8_cuts 2 = .ok (.getfield 65, 3) := by decide +kernel
theorem dX8_cuts_5 : decode cX8_cuts 5 = .ok (.aload_n 0, 1) := by decide +kernel
theorem dX8_cuts_6 : decode cX8_cuts 6 = .ok (.getfield 172, 3) := by decide +kernel
theorem dX8_cuts_9 : decode cX8_cuts 9 = .ok (.invokevirtual 148, 3) := by decide +kernel
theorem dX8_cuts_12 : decode cX8_cuts 12 = .ok (.istore_n 1, 1) := by decide +kernel
theorem dX8_cuts_13 : decode cX8_cuts 13 = .ok (.return_, 1) := by decide +kernel
set_option maxRecDepth 100000 in
theorem ggX8_word_X8_cuts : GoodIn wsX8_word wsX8_cuts := goodIn_r _ [11, 6, 12, 13, 14, 15, 10, 16, 3, 4, 5, 17, 18, 19, 20, 21, 22, 47, 48, 49, 50, 51, 52, 53, 54, 55, 56, 57, 58, 59, 60, 61, 62, 63, 64, 65, 66, 67, 68, 69, 70, 71, 72, 73, 74, 75, 76, 77, 78, 79, 80, 81, 82, 83, 84] (by rfl) (by decide +kernel)
set_option maxRecDepth 20000 in
theorem gX8_word_X8_cuts : GoodIn wsX8_word (wsV RX8 182 RX8 yX8_cuts wsX8_cuts) := goodIn_app (goodIn_of _ (by decide +kernel)) ggX8_word_X8_cuts
set_option maxRecDepth 100000 in
theorem ggX8_word_X8_nameOf : GoodIn wsX8_word wsX8_nameOf := goodIn_r _ [26, 27, 28, 29, 30, 31, 10, 32, 33, 34, 35, 36, 37, 38, 39, 20, 21, 22, 47, 48, 49, 50, 51, 52, 53, 54, 55, 56, 57, 58, 59, 60, 61, 62, 63, 64, 65, 66, 67, 68, 69, 70, 71, 72, 73, 74, 75, 76, 77, 78, 79, 80, 81, 82, 83, 84] (by rfl) (by decide +kernel)
set_option maxRecDepth 20000 in
theorem gX8_word_X8_nameOf : GoodIn wsX8_word (wsV RX8 155 RX8 yX8_nameOf wsX8_nameOf) := goodIn_app (goodIn_of _ (by decide +kernel)) ggX8_word_X8_nameOf
set_option maxRecDepth 100000 in
theorem ggX8_word_X8_keywordAt : GoodIn wsX8_word wsX8_keywordAt := goodIn_r _ [43, 44, 45, 46, 30, 31, 10, 32, 33, 34, 35, 36, 37, 38, 39, 20, 21, 22, 47, 48, 49, 50, 51, 52, 53, 54, 55, 56, 57, 58, 59, 60, 61, 62, 63, 64, 65, 66, 67, 68, 69, 70, 71, 72, 73, 74, 75, 76, 77, 78, 79, 80, 81, 82, 83, 84] (by rfl) (by decide +kernel)
set_option maxRecDepth 20000 in
theorem gX8_word_X8_keywordAt : GoodIn wsX8_word (wsV RX8 169 RX8 yX8_keywordAt wsX8_keywordAt) := goodIn_app (goodIn_of _ (by decide +kernel)) ggX8_word_X8_keywordAt
theorem dX8_word_0 : decode cX8_word 0 = .ok (.aload_n 0, 1) := by decide +kernel
theorem dX8_word_1 : decode cX8_word 1 = .ok (.iconst 0, 1) := by decide +kernel
theorem dX8_word_2 : decode cX8_word 2 = .ok (.putfield 97, 3) := by decide +kernel
theorem dX8_word_5 : decode cX8_word 5 = .ok (.iload_n 1, 1) := by decide +kernel
theorem dX8_word_6 : decode cX8_word 6 = .ok (.ifCond .lt 11, 3) := by decide +kernel
theorem dX8_word_9 : decode cX8_word 9 = .ok (.iload_n 1, 1) := by decide +kernel
theorem dX8_word_10 : decode cX8_word 10 = .ok (.aload_n 0, 1) := by decide +kernel
theorem dX8_word_11 : decode cX8_word 11 = .ok (.getfield 175, 3) := by decide +kernel
theorem dX8_word_14 : decode cX8_word 14 = .ok (.if_icmp .lt 5, 3) := by decide +kernel
theorem dX8_word_17 : decode cX8_word 17 = .ok (.iconst (-1), 1) := by decide +kernel
theorem dX8_word_18 : decode cX8_word 18 = .ok (.ireturn, 1) := by decide +kernel
theorem dX8_word_19 : decode cX8_word 19 = .ok (.aload_n 0, 1) := by decide +kernel
theorem dX8_word_20 : decode cX8_word 20 = .ok (.invokevirtual 182, 3) := by decide +kernel
theorem dX8_word_23 : decode cX8_word 23 = .ok (.iload_n 2, 1) := by decide +kernel
theorem dX8_word_24 : decode cX8_word 24 = .ok (.ifCond .ne 10, 3) := by decide +kernel
theorem dX8_word_27 : decode cX8_word 27 = .ok (.aload_n 0, 1) := by decide +kernel
theorem dX8_word_28 : decode cX8_word 28 = .ok (.getfield 15, 3) := by decide +kernel
theorem dX8_word_31 : decode cX8_word 31 = .ok (.iload_n 1, 1) := by decide +kernel
theorem dX8_word_32 : decode cX8_word 32 = .ok (.iaload, 1) := by decide +kernel
theorem dX8_word_33 : decode cX8_word 33 = .ok (.ireturn, 1) := by decide +kernel
theorem dX8_word_34 : decode cX8_word 34 = .ok (.iload_n 2, 1) := by decide +kernel
theorem dX8_word_35 : decode cX8_word 35 = .ok (.iconst 1, 1) := by decide +kernel
theorem dX8_word_36 : decode cX8_word 36 = .ok (.if_icmp .ne 10, 3) := by decide +kernel
theorem dX8_word_39 : decode cX8_word 39 = .ok (.aload_n 0, 1) := by decide +kernel
theorem dX8_word_40 : decode cX8_word 40 = .ok (.getfield 19, 3) := by decide +kernel
theorem dX8_word_43 : decode cX8_word 43 = .ok (.iload_n 1, 1) := by decide +kernel
theorem dX8_word_44 : decode cX8_word 44 = .ok (.iaload, 1) := by decide +kernel
theorem dX8_word_45 : decode cX8_word 45 = .ok (.ireturn, 1) := by decide +kernel
theorem dX8_word_46 : decode cX8_word 46 = .ok (.iload_n 2, 1) := by decide +kernel
theorem dX8_word_47 : decode cX8_word 47 = .ok (.iconst 2, 1) := by decide +kernel
theorem dX8_word_48 : decode cX8_word 48 = .ok (.if_icmp .eq 5, 3) := by decide +kernel
theorem dX8_word_51 : decode cX8_word 51 = .ok (.iconst (-1), 1) := by decide +kernel
theorem dX8_word_52 : decode cX8_word 52 = .ok (.ireturn, 1) := by decide +kernel
theorem dX8_word_53 : decode cX8_word 53 = .ok (.aload_n 0, 1) := by decide +kernel
theorem dX8_word_54 : decode cX8_word 54 = .ok (.getfield 22, 3) := by decide +kernel
theorem dX8_word_57 : decode cX8_word 57 = .ok (.iload_n 1, 1) := by decide +kernel
theorem dX8_word_58 : decode cX8_word 58 = .ok (.baload, 1) := by decide +kernel
theorem dX8_word_59 : decode cX8_word 59 = .ok (.ifCond .eq 7, 3) := by decide +kernel
theorem dX8_word_62 : decode cX8_word 62 = .ok (.iconst 1, 1) := by decide +kernel
theorem dX8_word_63 : decode cX8_word 63 = .ok (.goto 60, 3) := by decide +kernel
theorem dX8_word_66 : decode cX8_word 66 = .ok (.aload_n 0, 1) := by decide +kernel
theorem dX8_word_67 : decode cX8_word 67 = .ok (.aload_n 0, 1) := by decide +kernel
theorem dX8_word_68 : decode cX8_word 68 = .ok (.getfield 65, 3) := by decide +kernel
theorem dX8_word_71 : decode cX8_word 71 = .ok (.aload_n 0, 1) := by decide +kernel
theorem dX8_word_72 : decode cX8_word 72 = .ok (.getfield 15, 3) := by decide +kernel
theorem dX8_word_75 : decode cX8_word 75 = .ok (.iload_n 1, 1) := by decide +kernel
theorem dX8_word_76 : decode cX8_word 76 = .ok (.iaload, 1) := by decide +kernel
theorem dX8_word_77 : decode cX8_word 77 = .ok (.aload_n 0, 1) := by decide +kernel
theorem dX8_word_78 : decode cX8_word 78 = .ok (.getfield 19, 3) := by decide +kernel
theorem dX8_word_81 : decode cX8_word 81 = .ok (.iload_n 1, 1) := by decide +kernel
theorem dX8_word_82 : decode cX8_word 82 = .ok (.iaload, 1) := by decide +kernel
theorem dX8_word_83 : decode cX8_word 83 = .ok (.invokevirtual 155, 3) := by decide +kernel
theorem dX8_word_86 : decode cX8_word 86 = .ok (.iconst (-1), 1) := by decide +kernel
theorem dX8_word_87 : decode cX8_word 87 = .ok (.if_icmp .eq 7, 3) := by decide +kernel
theorem dX8_word_90 : decode cX8_word 90 = .ok (.iconst 2, 1) := by decide +kernel
theorem dX8_word_91 : decode cX8_word 91 = .ok (.goto 32, 3) := by decide +kernel
theorem dX8_word_94 : decode cX8_word 94 = .ok (.aload_n 0, 1) := by decide +kernel
theorem dX8_word_95 : decode cX8_word 95 = .ok (.aload_n 0, 1) := by decide +kernel
theorem dX8_word_96 : decode cX8_word 96 = .ok (.getfield 65, 3) := by decide +kernel
theorem dX8_word_99 : decode cX8_word 99 = .ok (.aload_n 0, 1) := by decide +kernel
theorem dX8_word_100 : decode cX8_word 100 = .ok (.getfield 15, 3) := by decide +kernel
theorem dX8_word_103 : decode cX8_word 103 = .ok (.iload_n 1, 1) := by decide +kernel
theorem dX8_word_104 : decode cX8_word 104 = .ok (.iaload, 1) := by decide +kernel
theorem dX8_word_105 : decode cX8_word 105 = .ok (.aload_n 0, 1) := by decide +kernel
theorem dX8_word_106 : decode cX8_word 106 = .ok (.getfield 19, 3) := by decide +kernel
theorem dX8_word_109 : decode cX8_word 109 = .ok (.iload_n 1, 1) := by decide +kernel
theorem dX8_word_110 : decode cX8_word 110 = .ok (.iaload, 1) := by decide +kernel
theorem dX8_word_111 : decode cX8_word 111 = .ok (.invokevirtual 169, 3) := by decide +kernel
theorem dX8_word_114 : decode cX8_word 114 = .ok (.iconst (-1), 1) := by decide +kernel
theorem dX8_word_115 : decode cX8_word 115 = .ok (.if_icmp .eq 7, 3) := by decide +kernel
theorem dX8_word_118 : decode cX8_word 118 = .ok (.iconst 3, 1) := by decide +kernel
theorem dX8_word_119 : decode cX8_word 119 = .ok (.goto 4, 3) := by decide +kernel
theorem dX8_word_122 : decode cX8_word 122 = .ok (.iconst 0, 1) := by decide +kernel
theorem dX8_word_123 : decode cX8_word 123 = .ok (.ireturn, 1) := by decide +kernel
theorem dX8_costOf_0 : decode cX8_costOf 0 = .ok (.bipush 100, 2) := by decide +kernel
theorem dX8_costOf_2 : decode cX8_costOf 2 = .ok (.istore_n 1, 1) := by decide +kernel
theorem dX8_costOf_3 : decode cX8_costOf 3 = .ok (.iload_n 0, 1) := by decide +kernel
theorem dX8_costOf_4 : decode cX8_costOf 4 = .ok (.istore_n 2, 1) := by decide +kernel
theorem dX8_costOf_5 : decode cX8_costOf 5 = .ok (.iload_n 2, 1) := by decide +kernel
theorem dX8_costOf_6 : decode cX8_costOf 6 = .ok (.ifCond .le 17, 3) := by decide +kernel
theorem dX8_costOf_9 : decode cX8_costOf 9 = .ok (.iload_n 1, 1) := by decide +kernel
theorem dX8_costOf_10 : decode cX8_costOf 10 = .ok (.ifCond .le 13, 3) := by decide +kernel
theorem dX8_costOf_13 : decode cX8_costOf 13 = .ok (.iinc 1 (-20), 3) := by decide +kernel
theorem dX8_costOf_16 : decode cX8_costOf 16 = .ok (.iload_n 2, 1) := by decide +kernel
theorem dX8_costOf_17 : decode cX8_costOf 17 = .ok (.iconst 1, 1) := by decide +kernel
theorem dX8_costOf_18 : decode cX8_costOf 18 = .ok (.ishr, 1) := by decide +kernel
theorem dX8_costOf_19 : decode cX8_costOf 19 = .ok (.istore_n 2, 1) := by decide +kernel
theorem dX8_costOf_20 : decode cX8_costOf 20 = .ok (.goto (-15), 3) := by decide +kernel
theorem dX8_costOf_23 : decode cX8_costOf 23 = .ok (.iload_n 1, 1) := by decide +kernel
theorem dX8_costOf_24 : decode cX8_costOf 24 = .ok (.ireturn, 1) := by decide +kernel
set_option maxRecDepth 100000 in
theorem ggX8_wordCost_X8_nameOf : GoodIn wsX8_wordCost wsX8_nameOf := goodIn_r _ [11, 12, 13, 14, 15, 16, 10, 17, 18, 19, 20, 21, 22, 23, 24, 25, 26, 27, 38, 39, 40, 41, 42, 43, 44, 45, 46, 47, 48, 49, 50, 51, 52, 53, 54, 55, 56, 57, 58, 59, 60, 61, 62, 63, 64, 65, 66, 67, 68, 69, 70, 71, 72, 73, 74, 75] (by rfl) (by decide +kernel)
set_option maxRecDepth 20000 in
theorem gX8_wordCost_X8_nameOf : GoodIn wsX8_wordCost (wsV RX8 155 RX8 yX8_nameOf wsX8_nameOf) := goodIn_app (goodIn_of _ (by decide +kernel)) ggX8_wordCost_X8_nameOf
set_option maxRecDepth 100000 in
theorem ggX8_wordCost_X8_keywordAt : GoodIn wsX8_wordCost wsX8_keywordAt := goodIn_r _ [31, 32, 33, 34, 15, 16, 10, 17, 18, 19, 20, 21, 22, 23, 24, 25, 26, 27, 38, 39, 40, 41, 42, 43, 44, 45, 46, 47, 48, 49, 50, 51, 52, 53, 54, 55, 56, 57, 58, 59, 60, 61, 62, 63, 64, 65, 66, 67, 68, 69, 70, 71, 72, 73, 74, 75] (by rfl) (by decide +kernel)
set_option maxRecDepth 20000 in
theorem gX8_wordCost_X8_keywordAt : GoodIn wsX8_wordCost (wsV RX8 169 RX8 yX8_keywordAt wsX8_keywordAt) := goodIn_app (goodIn_of _ (by decide +kernel)) ggX8_wordCost_X8_keywordAt
set_option maxRecDepth 100000 in
theorem ggX8_wordCost_X8_most : GoodIn wsX8_wordCost wsX8_most := goodIn_r _ [17, 18, 19, 20, 21] (by rfl) (by decide +kernel)
set_option maxRecDepth 20000 in
theorem gX8_wordCost_X8_most : GoodIn wsX8_wordCost (va_wsS RX8 123 yX8_most wsX8_most) := goodIn_app (goodIn_of _ (by decide +kernel)) ggX8_wordCost_X8_most
set_option maxRecDepth 100000 in
theorem ggX8_wordCost_X8_signOf : GoodIn wsX8_wordCost wsX8_signOf := goodIn_r _ [27] (by rfl) (by decide +kernel)
set_option maxRecDepth 20000 in
theorem gX8_wordCost_X8_signOf : GoodIn wsX8_wordCost (va_wsS RX8 110 yX8_signOf wsX8_signOf) := goodIn_app (goodIn_of _ (by decide +kernel)) ggX8_wordCost_X8_signOf
set_option maxRecDepth 100000 in
theorem ggX8_wordCost_X8_costOf : GoodIn wsX8_wordCost wsX8_costOf := goodIn_r _ [37] (by rfl) (by decide +kernel)
set_option maxRecDepth 20000 in
theorem gX8_wordCost_X8_costOf : GoodIn wsX8_wordCost (va_wsS RX8 185 yX8_costOf wsX8_costOf) := goodIn_app (goodIn_of _ (by decide +kernel)) ggX8_wordCost_X8_costOf
theorem dX8_wordCost_0 : decode cX8_wordCost 0 = .ok (.aload_n 0, 1) := by decide +kernel
theorem dX8_wordCost_1 : decode cX8_wordCost 1 = .ok (.getfield 22, 3) := by decide +kernel
theorem dX8_wordCost_4 : decode cX8_wordCost 4 = .ok (.iload_n 1, 1) := by decide +kernel
theorem dX8_wordCost_5 : decode cX8_wordCost 5 = .ok (.baload, 1) := by decide +kernel
theorem dX8_wordCost_6 : decode cX8_wordCost 6 = .ok (.ifCond .ne 27, 3) := by decide +kernel
theorem dX8_wordCost_9 : decode cX8_wordCost 9 = .ok (.aload_n 0, 1) := by decide +kernel
theorem dX8_wordCost_10 : decode cX8_wordCost 10 = .ok (.aload_n 0, 1) := by decide +kernel
theorem dX8_wordCost_11 : decode cX8_wordCost 11 = .ok (.getfield 65, 3) := by decide +kernel
theorem dX8_wordCost_14 : decode cX8_wordCost 14 = .ok (.aload_n 0, 1) := by decide +kernel
theorem dX8_wordCost_15 : decode cX8_wordCost 15 = .ok (.getfield 15, 3) := by decide +kernel
theorem dX8_wordCost_18 : decode cX8_wordCost 18 = .ok (.iload_n 1, 1) := by decide +kernel
theorem dX8_wordCost_19 : decode cX8_wordCost 19 = .ok (.iaload, 1) := by decide +kernel
theorem dX8_wordCost_20 : decode cX8_wordCost 20 = .ok (.aload_n 0, 1) := by decide +kernel
theorem dX8_wordCost_21 : decode cX8_wordCost 21 = .ok (.getfield 19, 3) := by decide +kernel
theorem dX8_wordCost_24 : decode cX8_wordCost 24 = .ok (.iload_n 1, 1) := by decide +kernel
theorem dX8_wordCost_25 : decode cX8_wordCost 25 = .ok (.iaload, 1) := by decide +kernel
theorem dX8_wordCost_26 : decode cX8_wordCost 26 = .ok (.invokevirtual 155, 3) := by decide +kernel
theorem dX8_wordCost_29 : decode cX8_wordCost 29 = .ok (.iconst (-1), 1) := by decide +kernel
theorem dX8_wordCost_30 : decode cX8_wordCost 30 = .ok (.if_icmp .eq 5, 3) := by decide +kernel
theorem dX8_wordCost_33 : decode cX8_wordCost 33 = .ok (.iconst 0, 1) := by decide +kernel
theorem dX8_wordCost_34 : decode cX8_wordCost 34 = .ok (.ireturn, 1) := by decide +kernel
theorem dX8_wordCost_35 : decode cX8_wordCost 35 = .ok (.aload_n 0, 1) := by decide +kernel
theorem dX8_wordCost_36 : decode cX8_wordCost 36 = .ok (.aload_n 0, 1) := by decide +kernel
theorem dX8_wordCost_37 : decode cX8_wordCost 37 = .ok (.getfield 65, 3) := by decide +kernel
theorem dX8_wordCost_40 : decode cX8_wordCost 40 = .ok (.aload_n 0, 1) := by decide +kernel
theorem dX8_wordCost_41 : decode cX8_wordCost 41 = .ok (.getfield 15, 3) := by decide +kernel
theorem dX8_wordCost_44 : decode cX8_wordCost 44 = .ok (.iload_n 1, 1) := by decide +kernel
theorem dX8_wordCost_45 : decode cX8_wordCost 45 = .ok (.iaload, 1) := by decide +kernel
theorem dX8_wordCost_46 : decode cX8_wordCost 46 = .ok (.aload_n 0, 1) := by decide +kernel
theorem dX8_wordCost_47 : decode cX8_wordCost 47 = .ok (.getfield 19, 3) := by decide +kernel
theorem dX8_wordCost_50 : decode cX8_wordCost 50 = .ok (.iload_n 1, 1) := by decide +kernel
theorem dX8_wordCost_51 : decode cX8_wordCost 51 = .ok (.iaload, 1) := by decide +kernel
theorem dX8_wordCost_52 : decode cX8_wordCost 52 = .ok (.invokevirtual 169, 3) := by decide +kernel
theorem dX8_wordCost_55 : decode cX8_wordCost 55 = .ok (.istore_n 3, 1) := by decide +kernel
theorem dX8_wordCost_56 : decode cX8_wordCost 56 = .ok (.iload_n 3, 1) := by decide +kernel
theorem dX8_wordCost_57 : decode cX8_wordCost 57 = .ok (.iconst (-1), 1) := by decide +kernel
theorem dX8_wordCost_58 : decode cX8_wordCost 58 = .ok (.if_icmp .eq 19, 3) := by decide +kernel
theorem dX8_wordCost_61 : decode cX8_wordCost 61 = .ok (.aload_n 0, 1) := by decide +kernel
theorem dX8_wordCost_62 : decode cX8_wordCost 62 = .ok (.getfield 35, 3) := by decide +kernel
theorem dX8_wordCost_65 : decode cX8_wordCost 65 = .ok (.iload_n 3, 1) := by decide +kernel
theorem dX8_wordCost_66 : decode cX8_wordCost 66 = .ok (.iaload, 1) := by decide +kernel
theorem dX8_wordCost_67 : decode cX8_wordCost 67 = .ok (.iload_n 2, 1) := by decide +kernel
theorem dX8_wordCost_68 : decode cX8_wordCost 68 = .ok (.ishr, 1) := by decide +kernel
theorem dX8_wordCost_69 : decode cX8_wordCost 69 = .ok (.iconst 1, 1) := by decide +kernel
theorem dX8_wordCost_70 : decode cX8_wordCost 70 = .ok (.iand, 1) := by decide +kernel
theorem dX8_wordCost_71 : decode cX8_wordCost 71 = .ok (.iconst 1, 1) := by decide +kernel
theorem dX8_wordCost_72 : decode cX8_wordCost 72 = .ok (.if_icmp .ne 5, 3) := by decide +kernel
theorem dX8_wordCost_75 : decode cX8_wordCost 75 = .ok (.iconst 0, 1) := by decide +kernel
theorem dX8_wordCost_76 : decode cX8_wordCost 76 = .ok (.ireturn, 1) := by decide +kernel
theorem dX8_wordCost_77 : decode cX8_wordCost 77 = .ok (.iload_n 3, 1) := by decide +kernel
theorem dX8_wordCost_78 : decode cX8_wordCost 78 = .ok (.iconst (-1), 1) := by decide +kernel
theorem dX8_wordCost_79 : decode cX8_wordCost 79 = .ok (.if_icmp .eq 9, 3) := by decide +kernel
theorem dX8_wordCost_82 : decode cX8_wordCost 82 = .ok (.sipush 300, 3) := by decide +kernel
theorem dX8_wordCost_85 : decode cX8_wordCost 85 = .ok (.goto 4, 3) := by decide +kernel
theorem dX8_wordCost_88 : decode cX8_wordCost 88 = .ok (.iconst 0, 1) := by decide +kernel
theorem dX8_wordCost_89 : decode cX8_wordCost 89 = .ok (.istore 4, 2) := by decide +kernel
theorem dX8_wordCost_91 : decode cX8_wordCost 91 = .ok (.bipush 27, 2) := by decide +kernel
theorem dX8_wordCost_93 : decode cX8_wordCost 93 = .ok (.istore 5, 2) := by decide +kernel
theorem dX8_wordCost_95 : decode cX8_wordCost 95 = .ok (.iconst 0, 1) := by decide +kernel
theorem dX8_wordCost_96 : decode cX8_wordCost 96 = .ok (.istore 6, 2) := by decide +kernel
theorem dX8_wordCost_98 : decode cX8_wordCost 98 = .ok (.iload 6, 2) := by decide +kernel
theorem dX8_wordCost_100 : decode cX8_wordCost 100 = .ok (.aload_n 0, 1) := by decide +kernel
theorem dX8_wordCost_101 : decode cX8_wordCost 101 = .ok (.getfield 19, 3) := by decide +kernel
theorem dX8_wordCost_104 : decode cX8_wordCost 104 = .ok (.iload_n 1, 1) := by decide +kernel
theorem dX8_wordCost_105 : decode cX8_wordCost 105 = .ok (.iaload, 1) := by decide +kernel
theorem dX8_wordCost_106 : decode cX8_wordCost 106 = .ok (.invokestatic 123, 3) := by decide +kernel
theorem dX8_wordCost_109 : decode cX8_wordCost 109 = .ok (.if_icmp .gt 81, 3) := by decide +kernel
theorem dX8_wordCost_112 : decode cX8_wordCost 112 = .ok (.iload 6, 2) := by decide +kernel
theorem dX8_wordCost_114 : decode cX8_wordCost 114 = .ok (.aload_n 0, 1) := by decide +kernel
theorem dX8_wordCost_115 : decode cX8_wordCost 115 = .ok (.getfield 19, 3) := by decide +kernel
theorem dX8_wordCost_118 : decode cX8_wordCost 118 = .ok (.iload_n 1, 1) := by decide +kernel
theorem dX8_wordCost_119 : decode cX8_wordCost 119 = .ok (.iaload, 1) := by decide +kernel
theorem dX8_wordCost_120 : decode cX8_wordCost 120 = .ok (.invokestatic 123, 3) := by decide +kernel
theorem dX8_wordCost_123 : decode cX8_wordCost 123 = .ok (.if_icmp .ne 8, 3) := by decide +kernel
theorem dX8_wordCost_126 : decode cX8_wordCost 126 = .ok (.bipush 27, 2) := by decide +kernel
theorem dX8_wordCost_128 : decode cX8_wordCost 128 = .ok (.goto 24, 3) := by decide +kernel
theorem dX8_wordCost_131 : decode cX8_wordCost 131 = .ok (.aload_n 0, 1) := by decide +kernel
theorem dX8_wordCost_132 : decode cX8_wordCost 132 = .ok (.getfield 65, 3) := by decide +kernel
theorem dX8_wordCost_135 : decode cX8_wordCost 135 = .ok (.aload_n 0, 1) := by decide +kernel
theorem dX8_wordCost_136 : decode cX8_wordCost 136 = .ok (.getfield 15, 3) := by decide +kernel
theorem dX8_wordCost_139 : decode cX8_wordCost 139 = .ok (.iload_n 1, 1) := by decide +kernel
theorem dX8_wordCost_140 : decode cX8_wordCost 140 = .ok (.iaload, 1) := by decide +kernel
theorem dX8_wordCost_141 : decode cX8_wordCost 141 = .ok (.iload 6, 2) := by decide +kernel
theorem dX8_wordCost_143 : decode cX8_wordCost 143 = .ok (.iadd, 1) := by decide +kernel
theorem dX8_wordCost_144 : decode cX8_wordCost 144 = .ok (.baload, 1) := by decide +kernel
theorem dX8_wordCost_145 : decode cX8_wordCost 145 = .ok (.sipush 255, 3) := by decide +kernel
theorem dX8_wordCost_148 : decode cX8_wordCost 148 = .ok (.iand, 1) := by decide +kernel
theorem dX8_wordCost_149 : decode cX8_wordCost 149 = .ok (.invokestatic 110, 3) := by decide +kernel
theorem dX8_wordCost_152 : decode cX8_wordCost 152 = .ok (.istore 7, 2) := by decide +kernel
theorem dX8_wordCost_154 : decode cX8_wordCost 154 = .ok (.iload 4, 2) := by decide +kernel
theorem dX8_wordCost_156 : decode cX8_wordCost 156 = .ok (.aload_n 0, 1) := by decide +kernel
theorem dX8_wordCost_157 : decode cX8_wordCost 157 = .ok (.getfield 41, 3) := by decide +kernel
theorem dX8_wordCost_160 : decode cX8_wordCost 160 = .ok (.bipush 28, 2) := by decide +kernel
theorem dX8_wordCost_162 : decode cX8_wordCost 162 = .ok (.bipush 28, 2) := by decide +kernel
theorem dX8_wordCost_164 : decode cX8_wordCost 164 = .ok (.iload_n 2, 1) := by decide +kernel
theorem dX8_wordCost_165 : decode cX8_wordCost 165 = .ok (.imul, 1) := by decide +kernel
theorem dX8_wordCost_166 : decode cX8_wordCost 166 = .ok (.iload 5, 2) := by decide +kernel
theorem dX8_wordCost_168 : decode cX8_wordCost 168 = .ok (.iadd, 1) := by decide +kernel
theorem dX8_wordCost_169 : decode cX8_wordCost 169 = .ok (.imul, 1) := by decide +kernel
theorem dX8_wordCost_170 : decode cX8_wordCost 170 = .ok (.iload 7, 2) := by decide +kernel
theorem dX8_wordCost_172 : decode cX8_wordCost 172 = .ok (.iadd, 1) := by decide +kernel
theorem dX8_wordCost_173 : decode cX8_wordCost 173 = .ok (.iaload, 1) := by decide +kernel
theorem dX8_wordCost_174 : decode cX8_wordCost 174 = .ok (.invokestatic 185, 3) := by decide +kernel
theorem dX8_wordCost_177 : decode cX8_wordCost 177 = .ok (.iadd, 1) := by decide +kernel
theorem dX8_wordCost_178 : decode cX8_wordCost 178 = .ok (.istore 4, 2) := by decide +kernel
theorem dX8_wordCost_180 : decode cX8_wordCost 180 = .ok (.iload 7, 2) := by decide +kernel
theorem dX8_wordCost_182 : decode cX8_wordCost 182 = .ok (.istore 5, 2) := by decide +kernel
theorem dX8_wordCost_184 : decode cX8_wordCost 184 = .ok (.iinc 6 1, 3) := by decide +kernel
theorem dX8_wordCost_187 : decode cX8_wordCost 187 = .ok (.goto (-89), 3) := by decide +kernel
theorem dX8_wordCost_190 : decode cX8_wordCost 190 = .ok (.iload 4, 2) := by decide +kernel
theorem dX8_wordCost_192 : decode cX8_wordCost 192 = .ok (.ireturn, 1) := by decide +kernel
set_option maxRecDepth 100000 in
theorem ggX8_cost_X8_isTongue : GoodIn wsX8_cost wsX8_isTongue := goodIn_r _ [7, 8, 61, 62, 63, 64, 65, 66, 67, 68, 69, 70, 71, 72, 73, 74, 75, 76, 77, 78, 79, 80, 81, 82, 83, 84, 85, 86, 87, 88, 89, 90, 91, 92, 93, 94, 95, 96, 97, 98] (by rfl) (by decide +kernel)
set_option maxRecDepth 20000 in
theorem gX8_cost_X8_isTongue : GoodIn wsX8_cost (wsV RX8 142 RX8 yX8_isTongue wsX8_isTongue) := goodIn_app (goodIn_of _ (by decide +kernel)) ggX8_cost_X8_isTongue
set_option maxRecDepth 100000 in
theorem ggX8_cost_X8_cuts : GoodIn wsX8_cost wsX8_cuts := goodIn_r _ [12, 13, 14, 15, 16, 17, 6, 18, 19, 20, 21, 22, 23, 24, 25, 26, 27, 61, 62, 63, 64, 65, 66, 67, 68, 69, 70, 71, 72, 73, 74, 75, 76, 77, 78, 79, 80, 81, 82, 83, 84, 85, 86, 87, 88, 89, 90, 91, 92, 93, 94, 95, 96, 97, 98] (by rfl) (by decide +kernel)
set_option maxRecDepth 20000 in
theorem gX8_cost_X8_cuts : GoodIn wsX8_cost (wsV RX8 182 RX8 yX8_cuts wsX8_cuts) := goodIn_app (goodIn_of _ (by decide +kernel)) ggX8_cost_X8_cuts
set_option maxRecDepth 100000 in
theorem ggX8_cost_X8_wordCost : GoodIn wsX8_cost wsX8_wordCost := goodIn_r _ [31, 21, 13, 19, 20, 32, 33, 34, 35, 36, 6, 37, 38, 39, 40, 41, 42, 43, 44, 45, 46, 47, 48, 49, 50, 25, 26, 27, 51, 52, 53, 54, 55, 56, 57, 58, 59, 60, 61, 62, 63, 64, 65, 66, 67, 68, 69, 70, 71, 72, 73, 74, 75, 76, 77, 78, 79, 80, 81, 82, 83, 84, 85, 86, 87, 88, 89, 90, 91, 92, 93, 94, 95, 96, 97, 98] (by rfl) (by decide +kernel)
set_option maxRecDepth 20000 in
theorem gX8_cost_X8_wordCost : GoodIn wsX8_cost (wsV RX8 188 RX8 yX8_wordCost wsX8_wordCost) := goodIn_app (goodIn_of _ (by decide +kernel)) ggX8_cost_X8_wordCost
theorem dX8_cost_0 : decode cX8_cost 0 = .ok (.aload_n 0, 1) := by decide +kernel
theorem dX8_cost_1 : decode cX8_cost 1 = .ok (.iconst 0, 1) := by decide +kernel
theorem dX8_cost_2 : decode cX8_cost 2 = .ok (.putfield 97, 3) := by decide +kernel
theorem dX8_cost_5 : decode cX8_cost 5 = .ok (.iload_n 1, 1) := by decide +kernel
theorem dX8_cost_6 : decode cX8_cost 6 = .ok (.ifCond .lt 19, 3) := by decide +kernel
theorem dX8_cost_9 : decode cX8_cost 9 = .ok (.iload_n 1, 1) := by decide +kernel
theorem dX8_cost_10 : decode cX8_cost 10 = .ok (.aload_n 0, 1) := by decide +kernel
theorem dX8_cost_11 : decode cX8_cost 11 = .ok (.getfield 175, 3) := by decide +kernel
theorem dX8_cost_14 : decode cX8_cost 14 = .ok (.if_icmp .ge 11, 3) := by decide +kernel
theorem dX8_cost_17 : decode cX8_cost 17 = .ok (.aload_n 0, 1) := by decide +kernel
theorem dX8_cost_18 : decode cX8_cost 18 = .ok (.iload_n 2, 1) := by decide +kernel
theorem dX8_cost_19 : decode cX8_cost 19 = .ok (.invokevirtual 142, 3) := by decide +kernel
theorem dX8_cost_22 : decode cX8_cost 22 = .ok (.ifCond .ne 5, 3) := by decide +kernel
theorem dX8_cost_25 : decode cX8_cost 25 = .ok (.iconst (-1), 1) := by decide +kernel
theorem dX8_cost_26 : decode cX8_cost 26 = .ok (.ireturn, 1) := by decide +kernel
theorem dX8_cost_27 : decode cX8_cost 27 = .ok (.aload_n 0, 1) := by decide +kernel
theorem dX8_cost_28 : decode cX8_cost 28 = .ok (.invokevirtual 182, 3) := by decide +kernel
theorem dX8_cost_31 : decode cX8_cost 31 = .ok (.aload_n 0, 1) := by decide +kernel
theorem dX8_cost_32 : decode cX8_cost 32 = .ok (.iload_n 1, 1) := by decide +kernel
theorem dX8_cost_33 : decode cX8_cost 33 = .ok (.iload_n 2, 1) := by decide +kernel
theorem dX8_cost_34 : decode cX8_cost 34 = .ok (.invokevirtual 188, 3) := by decide +kernel
theorem dX8_cost_37 : decode cX8_cost 37 = .ok (.ireturn, 1) := by decide +kernel
set_option maxRecDepth 100000 in
theorem ggX8_costs_X8_cuts : GoodIn wsX8_costs wsX8_cuts := goodIn_r _ [8, 9, 10, 11, 12, 13, 7, 14, 15, 16, 17, 18, 19, 20, 21, 22, 23, 57, 58, 59, 60, 61, 62, 63, 64, 65, 66, 67, 68, 69, 70, 71, 72, 73, 74, 75, 76, 77, 78, 79, 80, 81, 82, 83, 84, 85, 86, 87, 88, 89, 90, 91, 92, 93, 94] (by rfl) (by decide +kernel)
set_option maxRecDepth 20000 in
theorem gX8_costs_X8_cuts : GoodIn wsX8_costs (wsV RX8 182 RX8 yX8_cuts wsX8_cuts) := goodIn_app (goodIn_of _ (by decide +kernel)) ggX8_costs_X8_cuts
set_option maxRecDepth 100000 in
theorem ggX8_costs_X8_wordCost : GoodIn wsX8_costs wsX8_wordCost := goodIn_r _ [27, 17, 9, 15, 16, 28, 29, 30, 31, 32, 7, 33, 34, 35, 36, 37, 38, 39, 40, 41, 42, 43, 44, 45, 46, 21, 22, 23, 47, 48, 49, 50, 51, 52, 53, 54, 55, 56, 57, 58, 59, 60, 61, 62, 63, 64, 65, 66, 67, 68, 69, 70, 71, 72, 73, 74, 75, 76, 77, 78, 79, 80, 81, 82, 83, 84, 85, 86, 87, 88, 89, 90, 91, 92, 93, 94] (by rfl) (by decide +kernel)
set_option maxRecDepth 20000 in
theorem gX8_costs_X8_wordCost : GoodIn wsX8_costs (wsV RX8 188 RX8 yX8_wordCost wsX8_wordCost) := goodIn_app (goodIn_of _ (by decide +kernel)) ggX8_costs_X8_wordCost
theorem dX8_costs_0 : decode cX8_costs 0 = .ok (.aload_n 0, 1) := by decide +kernel
theorem dX8_costs_1 : decode cX8_costs 1 = .ok (.invokevirtual 182, 3) := by decide +kernel
theorem dX8_costs_4 : decode cX8_costs 4 = .ok (.iconst 0, 1) := by decide +kernel
theorem dX8_costs_5 : decode cX8_costs 5 = .ok (.istore_n 1, 1) := by decide +kernel
theorem dX8_costs_6 : decode cX8_costs 6 = .ok (.iload_n 1, 1) := by decide +kernel
theorem dX8_costs_7 : decode cX8_costs 7 = .ok (.aload_n 0, 1) := by decide +kernel
theorem dX8_costs_8 : decode cX8_costs 8 = .ok (.getfield 175, 3) := by decide +kernel
theorem dX8_costs_11 : decode cX8_costs 11 = .ok (.if_icmp .ge 42, 3) := by decide +kernel
theorem dX8_costs_14 : decode cX8_costs 14 = .ok (.iconst 0, 1) := by decide +kernel
theorem dX8_costs_15 : decode cX8_costs 15 = .ok (.istore_n 2, 1) := by decide +kernel
theorem dX8_costs_16 : decode cX8_costs 16 = .ok (.iload_n 2, 1) := by decide +kernel
theorem dX8_costs_17 : decode cX8_costs 17 = .ok (.aload_n 0, 1) := by decide +kernel
theorem dX8_costs_18 : decode cX8_costs 18 = .ok (.getfield 133, 3) := by decide +kernel
theorem dX8_costs_21 : decode cX8_costs 21 = .ok (.if_icmp .ge 26, 3) := by decide +kernel
theorem dX8_costs_24 : decode cX8_costs 24 = .ok (.aload_n 0, 1) := by decide +kernel
theorem dX8_costs_25 : decode cX8_costs 25 = .ok (.getfield 71, 3) := by decide +kernel
theorem dX8_costs_28 : decode cX8_costs 28 = .ok (.bipush 8, 2) := by decide +kernel
theorem dX8_costs_30 : decode cX8_costs 30 = .ok (.iload_n 1, 1) := by decide +kernel
theorem dX8_costs_31 : decode cX8_costs 31 = .ok (.imul, 1) := by decide +kernel
theorem dX8_costs_32 : decode cX8_costs 32 = .ok (.iload_n 2, 1) := by decide +kernel
theorem dX8_costs_33 : decode cX8_costs 33 = .ok (.iadd, 1) := by decide +kernel
theorem dX8_costs_34 : decode cX8_costs 34 = .ok (.aload_n 0, 1) := by decide +kernel
theorem dX8_costs_35 : decode cX8_costs 35 = .ok (.iload_n 1, 1) := by decide +kernel
theorem dX8_costs_36 : decode cX8_costs 36 = .ok (.iload_n 2, 1) := by decide +kernel
theorem dX8_costs_37 : decode cX8_costs 37 = .ok (.invokevirtual 188, 3) := by decide +kernel
theorem dX8_costs_40 : decode cX8_costs 40 = .ok (.iastore, 1) := by decide +kernel
theorem dX8_costs_41 : decode cX8_costs 41 = .ok (.iinc 2 1, 3) := by decide +kernel
theorem dX8_costs_44 : decode cX8_costs 44 = .ok (.goto (-28), 3) := by decide +kernel
theorem dX8_costs_47 : decode cX8_costs 47 = .ok (.iinc 1 1, 3) := by decide +kernel
theorem dX8_costs_50 : decode cX8_costs 50 = .ok (.goto (-44), 3) := by decide +kernel
theorem dX8_costs_53 : decode cX8_costs 53 = .ok (.return_, 1) := by decide +kernel
theorem dX8_isAhead_0 : decode cX8_isAhead 0 = .ok (.iconst 0, 1) := by decide +kernel
theorem dX8_isAhead_1 : decode cX8_isAhead 1 = .ok (.istore_n 3, 1) := by decide +kernel
theorem dX8_isAhead_2 : decode cX8_isAhead 2 = .ok (.iload_n 3, 1) := by decide +kernel
theorem dX8_isAhead_3 : decode cX8_isAhead 3 = .ok (.iload_n 2, 1) := by decide +kernel
theorem dX8_isAhead_4 : decode cX8_isAhead 4 = .ok (.if_icmp .ge 18, 3) := by decide +kernel
theorem dX8_isAhead_7 : decode cX8_isAhead 7 = .ok (.aload_n 0, 1) := by decide +kernel
theorem dX8_isAhead_8 : decode cX8_isAhead 8 = .ok (.iload_n 3, 1) := by decide +kernel
theorem dX8_isAhead_9 : decode cX8_isAhead 9 = .ok (.baload, 1) := by decide +kernel
theorem dX8_isAhead_10 : decode cX8_isAhead 10 = .ok (.aload_n 1, 1) := by decide +kernel
theorem dX8_isAhead_11 : decode cX8_isAhead 11 = .ok (.iload_n 3, 1) := by decide +kernel
theorem dX8_isAhead_12 : decode cX8_isAhead 12 = .ok (.baload, 1) := by decide +kernel
theorem dX8_isAhead_13 : decode cX8_isAhead 13 = .ok (.if_icmp .ne 9, 3) := by decide +kernel
theorem dX8_isAhead_16 : decode cX8_isAhead 16 = .ok (.iinc 3 1, 3) := by decide +kernel
theorem dX8_isAhead_19 : decode cX8_isAhead 19 = .ok (.goto (-17), 3) := by decide +kernel
theorem dX8_isAhead_22 : decode cX8_isAhead 22 = .ok (.iload_n 3, 1) := by decide +kernel
theorem dX8_isAhead_23 : decode cX8_isAhead 23 = .ok (.iload_n 2, 1) := by decide +kernel
theorem dX8_isAhead_24 : decode cX8_isAhead 24 = .ok (.if_icmp .ge 16, 3) := by decide +kernel
theorem dX8_isAhead_27 : decode cX8_isAhead 27 = .ok (.aload_n 0, 1) := by decide +kernel
theorem dX8_isAhead_28 : decode cX8_isAhead 28 = .ok (.iload_n 3, 1) := by decide +kernel
theorem dX8_isAhead_29 : decode cX8_isAhead 29 = .ok (.baload, 1) := by decide +kernel
theorem dX8_isAhead_30 : decode cX8_isAhead 30 = .ok (.aload_n 1, 1) := by decide +kernel
theorem dX8_isAhead_31 : decode cX8_isAhead 31 = .ok (.iload_n 3, 1) := by decide +kernel
theorem dX8_isAhead_32 : decode cX8_isAhead 32 = .ok (.baload, 1) := by decide +kernel
theorem dX8_isAhead_33 : decode cX8_isAhead 33 = .ok (.if_icmp .ge 7, 3) := by decide +kernel
theorem dX8_isAhead_36 : decode cX8_isAhead 36 = .ok (.iconst 1, 1) := by decide +kernel
theorem dX8_isAhead_37 : decode cX8_isAhead 37 = .ok (.goto 4, 3) := by decide +kernel
theorem dX8_isAhead_40 : decode cX8_isAhead 40 = .ok (.iconst 0, 1) := by decide +kernel
theorem dX8_isAhead_41 : decode cX8_isAhead 41 = .ok (.ireturn, 1) := by decide +kernel
set_option maxRecDepth 100000 in
theorem ggX8_parts_X8_isAhead : GoodIn wsX8_parts wsX8_isAhead := goodIn_r _ [13] (by rfl) (by decide +kernel)
set_option maxRecDepth 20000 in
theorem gX8_parts_X8_isAhead : GoodIn wsX8_parts (va_wsS RX8 192 yX8_isAhead wsX8_isAhead) := goodIn_app (goodIn_of _ (by decide +kernel)) ggX8_parts_X8_isAhead
theorem dX8_parts_0 : decode cX8_parts 0 = .ok (.iconst 0, 1) := by decide +kernel
theorem dX8_parts_1 : decode cX8_parts 1 = .ok (.istore_n 3, 1) := by decide +kernel
theorem dX8_parts_2 : decode cX8_parts 2 = .ok (.iload_n 3, 1) := by decide +kernel
theorem dX8_parts_3 : decode cX8_parts 3 = .ok (.aload_n 0, 1) := by decide +kernel
theorem dX8_parts_4 : decode cX8_parts 4 = .ok (.getfield 175, 3) := by decide +kernel
theorem dX8_parts_7 : decode cX8_parts 7 = .ok (.if_icmp .ge 320, 3) := by decide +kernel
theorem dX8_parts_10 : decode cX8_parts 10 = .ok (.iconst 0, 1) := by decide +kernel
theorem dX8_parts_11 : decode cX8_parts 11 = .ok (.istore 4, 2) := by decide +kernel
theorem dX8_parts_13 : decode cX8_parts 13 = .ok (.iload 4, 2) := by decide +kernel
theorem dX8_parts_15 : decode cX8_parts 15 = .ok (.aload_n 0, 1) := by decide +kernel
theorem dX8_parts_16 : decode cX8_parts 16 = .ok (.getfield 133, 3) := by decide +kernel
theorem dX8_parts_19 : decode cX8_parts 19 = .ok (.if_icmp .ge 250, 3) := by decide +kernel
theorem dX8_parts_22 : decode cX8_parts 22 = .ok (.iload_n 3, 1) := by decide +kernel
theorem dX8_parts_23 : decode cX8_parts 23 = .ok (.iload_n 1, 1) := by decide +kernel
theorem dX8_parts_24 : decode cX8_parts 24 = .ok (.if_icmp .ne 14, 3) := by decide +kernel
theorem dX8_parts_27 : decode cX8_parts 27 = .ok (.iload 4, 2) := by decide +kernel
theorem dX8_parts_29 : decode cX8_parts 29 = .ok (.iload_n 2, 1) := by decide +kernel
theorem dX8_parts_30 : decode cX8_parts 30 = .ok (.if_icmp .ne 8, 3) := by decide +kernel
theorem dX8_parts_33 : decode cX8_parts 33 = .ok (.ldc 191, 2) := by decide +kernel
theorem dX8_parts_35 : decode cX8_parts 35 = .ok (.goto 15, 3) := by decide +kernel
theorem dX8_parts_38 : decode cX8_parts 38 = .ok (.aload_n 0, 1) := by decide +kernel
theorem dX8_parts_39 : decode cX8_parts 39 = .ok (.getfield 71, 3) := by decide +kernel
theorem dX8_parts_42 : decode cX8_parts 42 = .ok (.bipush 8, 2) := by decide +kernel
theorem dX8_parts_44 : decode cX8_parts 44 = .ok (.iload_n 3, 1) := by decide +kernel
theorem dX8_parts_45 : decode cX8_parts 45 = .ok (.imul, 1) := by decide +kernel
theorem dX8_parts_46 : decode cX8_parts 46 = .ok (.iload 4, 2) := by decide +kernel
theorem dX8_parts_48 : decode cX8_parts 48 = .ok (.iadd, 1) := by decide +kernel
theorem dX8_parts_49 : decode cX8_parts 49 = .ok (.iaload, 1) := by decide +kernel
theorem dX8_parts_50 : decode cX8_parts 50 = .ok (.istore 5, 2) := by decide +kernel
theorem dX8_parts_52 : decode cX8_parts 52 = .ok (.aload_n 0, 1) := by decide +kernel
theorem dX8_parts_53 : decode cX8_parts 53 = .ok (.getfield 77, 3) := by decide +kernel
theorem dX8_parts_56 : decode cX8_parts 56 = .ok (.iload 4, 2) := by decide +kernel
theorem dX8_parts_58 : decode cX8_parts 58 = .ok (.ldc 191, 2) := by decide +kernel
theorem dX8_parts_60 : decode cX8_parts 60 = .ok (.iastore, 1) := by decide +kernel
theorem dX8_parts_61 : decode cX8_parts 61 = .ok (.iconst (-1), 1) := by decide +kernel
theorem dX8_parts_62 : decode cX8_parts 62 = .ok (.istore 6, 2) := by decide +kernel
theorem dX8_parts_64 : decode cX8_parts 64 = .ok (.iconst 0, 1) := by decide +kernel
theorem dX8_parts_65 : decode cX8_parts 65 = .ok (.istore 7, 2) := by decide +kernel
theorem dX8_parts_67 : decode cX8_parts 67 = .ok (.iload 7, 2) := by decide +kernel
theorem dX8_parts_69 : decode cX8_parts 69 = .ok (.aload_n 0, 1) := by decide +kernel
theorem dX8_parts_70 : decode cX8_parts 70 = .ok (.getfield 133, 3) := by decide +kernel
theorem dX8_parts_73 : decode cX8_parts 73 = .ok (.if_icmp .ge 124, 3) := by decide +kernel
theorem dX8_parts_76 : decode cX8_parts 76 = .ok (.iload_n 3, 1) := by decide +kernel
theorem dX8_parts_77 : decode cX8_parts 77 = .ok (.ifCond .le 120, 3) := by decide +kernel
theorem dX8_parts_80 : decode cX8_parts 80 = .ok (.iload 5, 2) := by decide +kernel
theorem dX8_parts_82 : decode cX8_parts 82 = .ok (.ldc 191, 2) := by decide +kernel
theorem dX8_parts_84 : decode cX8_parts 84 = .ok (.if_icmp .eq 113, 3) := by decide +kernel
theorem dX8_parts_87 : decode cX8_parts 87 = .ok (.aload_n 0, 1) := by decide +kernel
theorem dX8_parts_88 : decode cX8_parts 88 = .ok (.getfield 74, 3) := by decide +kernel
theorem dX8_parts_91 : decode cX8_parts 91 = .ok (.iload 7, 2) := by decide +kernel
theorem dX8_parts_93 : decode cX8_parts 93 = .ok (.iaload, 1) := by decide +kernel
theorem dX8_parts_94 : decode cX8_parts 94 = .ok (.ldc 191, 2) := by decide +kernel
theorem dX8_parts_96 : decode cX8_parts 96 = .ok (.if_icmp .ne 6, 3) := by decide +kernel
theorem dX8_parts_99 : decode cX8_parts 99 = .ok (.goto 92, 3) := by decide +kernel
theorem dX8_parts_102 : decode cX8_parts 102 = .ok (.aload_n 0, 1) := by decide +kernel
theorem dX8_parts_103 : decode cX8_parts 103 = .ok (.getfield 74, 3) := by decide +kernel
theorem dX8_parts_106 : decode cX8_parts 106 = .ok (.iload 7, 2) := by decide +kernel
theorem dX8_parts_108 : decode cX8_parts 108 = .ok (.iaload, 1) := by decide +kernel
theorem dX8_parts_109 : decode cX8_parts 109 = .ok (.iload 5, 2) := by decide +kernel
theorem dX8_parts_111 : decode cX8_parts 111 = .ok (.iadd, 1) := by decide +kernel
theorem dX8_parts_112 : decode cX8_parts 112 = .ok (.iload 7, 2) := by decide +kernel
theorem dX8_parts_114 : decode cX8_parts 114 = .ok (.iload 4, 2) := by decide +kernel
theorem dX8_parts_116 : decode cX8_parts 116 = .ok (.if_icmp .ne 7, 3) := by decide +kernel
theorem dX8_parts_119 : decode cX8_parts 119 = .ok (.iconst 0, 1) := by decide +kernel
theorem dX8_parts_120 : decode cX8_parts 120 = .ok (.goto 7, 3) := by decide +kernel
theorem dX8_parts_123 : decode cX8_parts 123 = .ok (.aload_n 0, 1) := by decide +kernel
theorem dX8_parts_124 : decode cX8_parts 124 = .ok (.getfield 58, 3) := by decide +kernel
theorem dX8_parts_127 : decode cX8_parts 127 = .ok (.iadd, 1) := by decide +kernel
theorem dX8_parts_128 : decode cX8_parts 128 = .ok (.istore 8, 2) := by decide +kernel
theorem dX8_parts_130 : decode cX8_parts 130 = .ok (.iload 8, 2) := by decide +kernel
theorem dX8_parts_132 : decode cX8_parts 132 = .ok (.aload_n 0, 1) := by decide +kernel
theorem dX8_parts_133 : decode cX8_parts 133 = .ok (.getfield 77, 3) := by decide +kernel
theorem dX8_parts_136 : decode cX8_parts 136 = .ok (.iload 4, 2) := by decide +kernel
theorem dX8_parts_138 : decode cX8_parts 138 = .ok (.iaload, 1) := by decide +kernel
theorem dX8_parts_139 : decode cX8_parts 139 = .ok (.if_icmp .gt 52, 3) := by decide +kernel
theorem dX8_parts_142 : decode cX8_parts 142 = .ok (.iload 8, 2) := by decide +kernel
theorem dX8_parts_144 : decode cX8_parts 144 = .ok (.aload_n 0, 1) := by decide +kernel
theorem dX8_parts_145 : decode cX8_parts 145 = .ok (.getfield 77, 3) := by decide +kernel
theorem dX8_parts_148 : decode cX8_parts 148 = .ok (.iload 4, 2) := by decide +kernel
theorem dX8_parts_150 : decode cX8_parts 150 = .ok (.iaload, 1) := by decide +kernel
theorem dX8_parts_151 : decode cX8_parts 151 = .ok (.if_icmp .ne 27, 3) := by decide +kernel
theorem dX8_parts_154 : decode cX8_parts 154 = .ok (.aload_n 0, 1) := by decide +kernel
theorem dX8_parts_155 : decode cX8_parts 155 = .ok (.getfield 82, 3) := by decide +kernel
theorem dX8_parts_158 : decode cX8_parts 158 = .ok (.iload 7, 2) := by decide +kernel
theorem dX8_parts_160 : decode cX8_parts 160 = .ok (.aaload, 1) := by decide +kernel
theorem dX8_parts_161 : decode cX8_parts 161 = .ok (.aload_n 0, 1) := by decide +kernel
theorem dX8_parts_162 : decode cX8_parts 162 = .ok (.getfield 82, 3) := by decide +kernel
theorem dX8_parts_165 : decode cX8_parts 165 = .ok (.iload 6, 2) := by decide +kernel
theorem dX8_parts_167 : decode cX8_parts 167 = .ok (.aaload, 1) := by decide +kernel
theorem dX8_parts_168 : decode cX8_parts 168 = .ok (.iload_n 3, 1) := by decide +kernel
theorem dX8_parts_169 : decode cX8_parts 169 = .ok (.invokestatic 192, 3) := by decide +kernel
theorem dX8_parts_172 : decode cX8_parts 172 = .ok (.ifCond .ne 6, 3) := by decide +kernel
theorem dX8_parts_175 : decode cX8_parts 175 = .ok (.goto 16, 3) := by decide +kernel
theorem dX8_parts_178 : decode cX8_parts 178 = .ok (.aload_n 0, 1) := by decide +kernel
theorem dX8_parts_179 : decode cX8_parts 179 = .ok (.getfield 77, 3) := by decide +kernel
theorem dX8_parts_182 : decode cX8_parts 182 = .ok (.iload 4, 2) := by decide +kernel
theorem dX8_parts_184 : decode cX8_parts 184 = .ok (.iload 8, 2) := by decide +kernel
theorem dX8_parts_186 : decode cX8_parts 186 = .ok (.iastore, 1) := by decide +kernel
theorem dX8_parts_187 : decode cX8_parts 187 = .ok (.iload 7, 2) := by decide +kernel
theorem dX8_parts_189 : decode cX8_parts 189 = .ok (.istore 6, 2) := by decide +kernel
theorem dX8_parts_191 : decode cX8_parts 191 = .ok (.iinc 7 1, 3) := by decide +kernel
theorem dX8_parts_194 : decode cX8_parts 194 = .ok (.goto (-127), 3) := by decide +kernel
theorem dX8_parts_197 : decode cX8_parts 197 = .ok (.iload_n 3, 1) := by decide +kernel
theorem dX8_parts_198 : decode cX8_parts 198 = .ok (.ifCond .ne 12, 3) := by decide +kernel
theorem dX8_parts_201 : decode cX8_parts 201 = .ok (.aload_n 0, 1) := by decide +kernel
theorem dX8_parts_202 : decode cX8_parts 202 = .ok (.getfield 77, 3) := by decide +kernel
theorem dX8_parts_205 : decode cX8_parts 205 = .ok (.iload 4, 2) := by decide +kernel
theorem dX8_parts_207 : decode cX8_parts 207 = .ok (.iload 5, 2) := by decide +kernel
theorem dX8_parts_209 : decode cX8_parts 209 = .ok (.iastore, 1) := by decide +kernel
theorem dX8_parts_210 : decode cX8_parts 210 = .ok (.iconst 0, 1) := by decide +kernel
theorem dX8_parts_211 : decode cX8_parts 211 = .ok (.istore 7, 2) := by decide +kernel
theorem dX8_parts_213 : decode cX8_parts 213 = .ok (.iload 7, 2) := by decide +kernel
theorem dX8_parts_215 : decode cX8_parts 215 = .ok (.iload_n 3, 1) := by decide +kernel
theorem dX8_parts_216 : decode cX8_parts 216 = .ok (.if_icmp .ge 35, 3) := by decide +kernel
theorem dX8_parts_219 : decode cX8_parts 219 = .ok (.iload 6, 2) := by decide +kernel
theorem dX8_parts_221 : decode cX8_parts 221 = .ok (.iconst (-1), 1) := by decide +kernel
theorem dX8_parts_222 : decode cX8_parts 222 = .ok (.if_icmp .eq 29, 3) := by decide +kernel
theorem dX8_parts_225 : decode cX8_parts 225 = .ok (.aload_n 0, 1) := by decide +kernel
theorem dX8_parts_226 : decode cX8_parts 226 = .ok (.getfield 85, 3) := by decide +kernel
theorem dX8_parts_229 : decode cX8_parts 229 = .ok (.iload 4, 2) := by decide +kernel
theorem dX8_parts_231 : decode cX8_parts 231 = .ok (.aaload, 1) := by decide +kernel
theorem dX8_parts_232 : decode cX8_parts 232 = .ok (.iload 7, 2) := by decide +kernel
theorem dX8_parts_234 : decode cX8_parts 234 = .ok (.aload_n 0, 1) := by decide +kernel
theorem dX8_parts_235 : decode cX8_parts 235 = .ok (.getfield 82, 3) := by decide +kernel
theorem dX8_parts_238 : decode cX8_parts 238 = .ok (.iload 6, 2) := by decide +kernel
theorem dX8_parts_240 : decode cX8_parts 240 = .ok (.aaload, 1) := by decide +kernel
theorem dX8_parts_241 : decode cX8_parts 241 = .ok (.iload 7, 2) := by decide +kernel
theorem dX8_parts_243 : decode cX8_parts 243 = .ok (.baload, 1) := by decide +kernel
theorem dX8_parts_244 : decode cX8_parts 244 = .ok (.bastore, 1) := by decide +kernel
theorem dX8_parts_245 : decode cX8_parts 245 = .ok (.iinc 7 1, 3) := by decide +kernel
theorem dX8_parts_248 : decode cX8_parts 248 = .ok (.goto (-35), 3) := by decide +kernel
theorem dX8_parts_251 : decode cX8_parts 251 = .ok (.aload_n 0, 1) := by decide +kernel
theorem dX8_parts_252 : decode cX8_parts 252 = .ok (.getfield 85, 3) := by decide +kernel
theorem dX8_parts_255 : decode cX8_parts 255 = .ok (.iload 4, 2) := by decide +kernel
theorem dX8_parts_257 : decode cX8_parts 257 = .ok (.aaload, 1) := by decide +kernel
theorem dX8_parts_258 : decode cX8_parts 258 = .ok (.iload_n 3, 1) := by decide +kernel
theorem dX8_parts_259 : decode cX8_parts 259 = .ok (.iload 4, 2) := by decide +kernel
theorem dX8_parts_261 : decode cX8_parts 261 = .ok (.i2b, 1) := by decide +kernel
theorem dX8_parts_262 : decode cX8_parts 262 = .ok (.bastore, 1) := by decide +kernel
theorem dX8_parts_263 : decode cX8_parts 263 = .ok (.iinc 4 1, 3) := by decide +kernel
theorem dX8_parts_266 : decode cX8_parts 266 = .ok (.goto (-253), 3) := by decide +kernel
theorem dX8_parts_269 : decode cX8_parts 269 = .ok (.iconst 0, 1) := by decide +kernel
theorem dX8_parts_270 : decode cX8_parts 270 = .ok (.istore 4, 2) := by decide +kernel
theorem dX8_parts_272 : decode cX8_parts 272 = .ok (.iload 4, 2) := by decide +kernel
theorem dX8_parts_274 : decode cX8_parts 274 = .ok (.aload_n 0, 1) := by decide +kernel
theorem dX8_parts_275 : decode cX8_parts 275 = .ok (.getfield 133, 3) := by decide +kernel
theorem dX8_parts_278 : decode cX8_parts 278 = .ok (.if_icmp .ge 23, 3) := by decide +kernel
theorem dX8_parts_281 : decode cX8_parts 281 = .ok (.aload_n 0, 1) := by decide +kernel
theorem dX8_parts_282 : decode cX8_parts 282 = .ok (.getfield 74, 3) := by decide +kernel
theorem dX8_parts_285 : decode cX8_parts 285 = .ok (.iload 4, 2) := by decide +kernel
theorem dX8_parts_287 : decode cX8_parts 287 = .ok (.aload_n 0, 1) := by decide +kernel
theorem dX8_parts_288 : decode cX8_parts 288 = .ok (.getfield 77, 3) := by decide +kernel
theorem dX8_parts_291 : decode cX8_parts 291 = .ok (.iload 4, 2) := by decide +kernel
theorem dX8_parts_293 : decode cX8_parts 293 = .ok (.iaload, 1) := by decide +kernel
theorem dX8_parts_294 : decode cX8_parts 294 = .ok (.iastore, 1) := by decide +kernel
theorem dX8_parts_295 : decode cX8_parts 295 = .ok (.iinc 4 1, 3) := by decide +kernel
theorem dX8_parts_298 : decode cX8_parts 298 = .ok (.goto (-26), 3) := by decide +kernel
theorem dX8_parts_301 : decode cX8_parts 301 = .ok (.aload_n 0, 1) := by decide +kernel
theorem dX8_parts_302 : decode cX8_parts 302 = .ok (.getfield 82, 3) := by decide +kernel
theorem dX8_parts_305 : decode cX8_parts 305 = .ok (.astore 4, 2) := by decide +kernel
theorem dX8_parts_307 : decode cX8_parts 307 = .ok (.aload_n 0, 1) := by decide +kernel
theorem dX8_parts_308 : decode cX8_parts 308 = .ok (.aload_n 0, 1) := by decide +kernel
theorem dX8_parts_309 : decode cX8_parts 309 = .ok (.getfield 85, 3) := by decide +kernel
theorem dX8_parts_312 : decode cX8_parts 312 = .ok (.putfield 82, 3) := by decide +kernel
theorem dX8_parts_315 : decode cX8_parts 315 = .ok (.aload_n 0, 1) := by decide +kernel
theorem dX8_parts_316 : decode cX8_parts 316 = .ok (.aload 4, 2) := by decide +kernel
theorem dX8_parts_318 : decode cX8_parts 318 = .ok (.putfield 85, 3) := by decide +kernel
theorem dX8_parts_321 : decode cX8_parts 321 = .ok (.iinc 3 1, 3) := by decide +kernel
theorem dX8_parts_324 : decode cX8_parts 324 = .ok (.goto (-322), 3) := by decide +kernel
theorem dX8_parts_327 : decode cX8_parts 327 = .ok (.return_, 1) := by decide +kernel
set_option maxRecDepth 100000 in
theorem ggX8_best_X8_isAhead : GoodIn wsX8_best wsX8_isAhead := goodIn_r _ [9] (by rfl) (by decide +kernel)
set_option maxRecDepth 20000 in
theorem gX8_best_X8_isAhead : GoodIn wsX8_best (va_wsS RX8 192 yX8_isAhead wsX8_isAhead) := goodIn_app (goodIn_of _ (by decide +kernel)) ggX8_best_X8_isAhead
theorem dX8_best_0 : decode cX8_best 0 = .ok (.iconst 0, 1) := by decide +kernel
theorem dX8_best_1 : decode cX8_best 1 = .ok (.istore_n 1, 1) := by decide +kernel
theorem dX8_best_2 : decode cX8_best 2 = .ok (.iconst 1, 1) := by decide +kernel
theorem dX8_best_3 : decode cX8_best 3 = .ok (.istore_n 2, 1) := by decide +kernel
theorem dX8_best_4 : decode cX8_best 4 = .ok (.iload_n 2, 1) := by decide +kernel
theorem dX8_best_5 : decode cX8_best 5 = .ok (.aload_n 0, 1) := by decide +kernel
theorem dX8_best_6 : decode cX8_best 6 = .ok (.getfield 133, 3) := by decide +kernel
theorem dX8_best_9 : decode cX8_best 9 = .ok (.if_icmp .ge 74, 3) := by decide +kernel
theorem dX8_best_12 : decode cX8_best 12 = .ok (.aload_n 0, 1) := by decide +kernel
theorem dX8_best_13 : decode cX8_best 13 = .ok (.getfield 74, 3) := by decide +kernel
theorem dX8_best_16 : decode cX8_best 16 = .ok (.iload_n 2, 1) := by decide +kernel
theorem dX8_best_17 : decode cX8_best 17 = .ok (.iaload, 1) := by decide +kernel
theorem dX8_best_18 : decode cX8_best 18 = .ok (.aload_n 0, 1) := by decide +kernel
theorem dX8_best_19 : decode cX8_best 19 = .ok (.getfield 74, 3) := by decide +kernel
theorem dX8_best_22 : decode cX8_best 22 = .ok (.iload_n 1, 1) := by decide +kernel
theorem dX8_best_23 : decode cX8_best 23 = .ok (.iaload, 1) := by decide +kernel
theorem dX8_best_24 : decode cX8_best 24 = .ok (.if_icmp .lt 51, 3) := by decide +kernel
theorem dX8_best_27 : decode cX8_best 27 = .ok (.aload_n 0, 1) := by decide +kernel
theorem dX8_best_28 : decode cX8_best 28 = .ok (.getfield 74, 3) := by decide +kernel
theorem dX8_best_31 : decode cX8_best 31 = .ok (.iload_n 2, 1) := by decide +kernel
theorem dX8_best_32 : decode cX8_best 32 = .ok (.iaload, 1) := by decide +kernel
theorem dX8_best_33 : decode cX8_best 33 = .ok (.aload_n 0, 1) := by decide +kernel
theorem dX8_best_34 : decode cX8_best 34 = .ok (.getfield 74, 3) := by decide +kernel
theorem dX8_best_37 : decode cX8_best 37 = .ok (.iload_n 1, 1) := by decide +kernel
theorem dX8_best_38 : decode cX8_best 38 = .ok (.iaload, 1) := by decide +kernel
theorem dX8_best_39 : decode cX8_best 39 = .ok (.if_icmp .ne 38, 3) := by decide +kernel
theorem dX8_best_42 : decode cX8_best 42 = .ok (.aload_n 0, 1) := by decide +kernel
theorem dX8_best_43 : decode cX8_best 43 = .ok (.getfield 74, 3) := by decide +kernel
theorem dX8_best_46 : decode cX8_best 46 = .ok (.iload_n 2, 1) := by decide +kernel
theorem dX8_best_47 : decode cX8_best 47 = .ok (.iaload, 1) := by decide +kernel
theorem dX8_best_48 : decode cX8_best 48 = .ok (.ldc 191, 2) := by decide +kernel
theorem dX8_best_50 : decode cX8_best 50 = .ok (.if_icmp .eq 27, 3) := by decide +kernel
theorem dX8_best_53 : decode cX8_best 53 = .ok (.aload_n 0, 1) := by decide +kernel
theorem dX8_best_54 : decode cX8_best 54 = .ok (.getfield 82, 3) := by decide +kernel
theorem dX8_best_57 : decode cX8_best 57 = .ok (.iload_n 2, 1) := by decide +kernel
theorem dX8_best_58 : decode cX8_best 58 = .ok (.aaload, 1) := by decide +kernel
theorem dX8_best_59 : decode cX8_best 59 = .ok (.aload_n 0, 1) := by decide +kernel
theorem dX8_best_60 : decode cX8_best 60 = .ok (.getfield 82, 3) := by decide +kernel
theorem dX8_best_63 : decode cX8_best 63 = .ok (.iload_n 1, 1) := by decide +kernel
theorem dX8_best_64 : decode cX8_best 64 = .ok (.aaload, 1) := by decide +kernel
theorem dX8_best_65 : decode cX8_best 65 = .ok (.aload_n 0, 1) := by decide +kernel
theorem dX8_best_66 : decode cX8_best 66 = .ok (.getfield 175, 3) := by decide +kernel
theorem dX8_best_69 : decode cX8_best 69 = .ok (.invokestatic 192, 3) := by decide +kernel
theorem dX8_best_72 : decode cX8_best 72 = .ok (.ifCond .eq 5, 3) := by decide +kernel
theorem dX8_best_75 : decode cX8_best 75 = .ok (.iload_n 2, 1) := by decide +kernel
theorem dX8_best_76 : decode cX8_best 76 = .ok (.istore_n 1, 1) := by decide +kernel
theorem dX8_best_77 : decode cX8_best 77 = .ok (.iinc 2 1, 3) := by decide +kernel
theorem dX8_best_80 : decode cX8_best 80 = .ok (.goto (-76), 3) := by decide +kernel
theorem dX8_best_83 : decode cX8_best 83 = .ok (.iload_n 1, 1) := by decide +kernel
theorem dX8_best_84 : decode cX8_best 84 = .ok (.ireturn, 1) := by decide +kernel
theorem dX8_isAsked_0 : decode cX8_isAsked 0 = .ok (.aload_n 0, 1) := by decide +kernel
theorem dX8_isAsked_1 : decode cX8_isAsked 1 = .ok (.getfield 178, 3) := by decide +kernel
theorem dX8_isAsked_4 : decode cX8_isAsked 4 = .ok (.ifCond .eq 14, 3) := by decide +kernel
theorem dX8_isAsked_7 : decode cX8_isAsked 7 = .ok (.aload_n 0, 1) := by decide +kernel
theorem dX8_isAsked_8 : decode cX8_isAsked 8 = .ok (.getfield 133, 3) := by decide +kernel
theorem dX8_isAsked_11 : decode cX8_isAsked 11 = .ok (.ifCond .le 7, 3) := by decide +kernel
theorem dX8_isAsked_14 : decode cX8_isAsked 14 = .ok (.iconst 1, 1) := by decide +kernel
theorem dX8_isAsked_15 : decode cX8_isAsked 15 = .ok (.goto 4, 3) := by decide +kernel
theorem dX8_isAsked_18 : decode cX8_isAsked 18 = .ok (.iconst 0, 1) := by decide +kernel
theorem dX8_isAsked_19 : decode cX8_isAsked 19 = .ok (.ireturn, 1) := by decide +kernel
set_option maxRecDepth 100000 in
theorem ggX8_part_X8_isAsked : GoodIn wsX8_part wsX8_isAsked := goodIn_r _ [11, 12, 13, 95, 96, 97, 98, 99, 100, 101, 102, 103, 104, 105, 106, 107, 108, 109, 110, 111, 112, 113, 114, 115, 116, 117, 118, 119, 120, 121, 122, 123, 124, 125, 126, 127, 128, 129, 130, 131, 132] (by rfl) (by decide +kernel)
set_option maxRecDepth 20000 in
theorem gX8_part_X8_isAsked : GoodIn wsX8_part (wsV RX8 196 RX8 yX8_isAsked wsX8_isAsked) := goodIn_app (goodIn_of _ (by decide +kernel)) ggX8_part_X8_isAsked
set_option maxRecDepth 100000 in
theorem ggX8_part_X8_refused : GoodIn wsX8_part wsX8_refused := goodIn_r _ [17, 18, 95, 96, 97, 98, 99, 100, 101, 102, 103, 104, 105, 106, 107, 108, 109, 110, 111, 112, 113, 114, 115, 116, 117, 118, 119, 120, 121, 122, 123, 124, 125, 126, 127, 128, 129, 130, 131, 132] (by rfl) (by decide +kernel)
set_option maxRecDepth 20000 in
theorem gX8_part_X8_refused : GoodIn wsX8_part (wsV RX8 136 RX8 yX8_refused wsX8_refused) := goodIn_app (goodIn_of _ (by decide +kernel)) ggX8_part_X8_refused
set_option maxRecDepth 100000 in
theorem ggX8_part_X8_done : GoodIn wsX8_part wsX8_done := goodIn_r _ [22, 18, 95, 96, 97, 98, 99, 100, 101, 102, 103, 104, 105, 106, 107, 108, 109, 110, 111, 112, 113, 114, 115, 116, 117, 118, 119, 120, 121, 122, 123, 124, 125, 126, 127, 128, 129, 130, 131, 132] (by rfl) (by decide +kernel)
set_option maxRecDepth 20000 in
theorem gX8_part_X8_done : GoodIn wsX8_part (wsV RX8 139 RX8 yX8_done wsX8_done) := goodIn_app (goodIn_of _ (by decide +kernel)) ggX8_part_X8_done
set_option maxRecDepth 100000 in
theorem ggX8_part_X8_costs : GoodIn wsX8_part wsX8_costs := goodIn_r _ [26, 2, 13, 27, 28, 29, 30, 10, 31, 32, 33, 34, 35, 36, 37, 38, 39, 40, 41, 42, 43, 44, 45, 46, 47, 48, 49, 50, 51, 52, 53, 54, 55, 56, 57, 58, 59, 60, 61, 62, 63, 64, 65, 66, 67, 68, 69, 70, 71, 72, 73, 74, 75, 76, 77, 78, 79, 95, 96, 97, 98, 99, 100, 101, 102, 103, 104, 105, 106, 107, 108, 109, 110, 111, 112, 113, 114, 115, 116, 117, 118, 119, 120, 121, 122, 123, 124, 125, 126, 127, 128, 129, 130, 131, 132] (by rfl) (by decide +kernel)
set_option maxRecDepth 20000 in
theorem gX8_part_X8_costs : GoodIn wsX8_part (wsV RX8 200 RX8 yX8_costs wsX8_costs) := goodIn_app (goodIn_of _ (by decide +kernel)) ggX8_part_X8_costs
set_option maxRecDepth 100000 in
theorem ggX8_part_X8_parts : GoodIn wsX8_part wsX8_parts := goodIn_r _ [83, 2, 13, 84, 27, 85, 6, 86, 5, 87, 88, 89, 10, 90, 95, 96, 97, 98, 99, 100, 101, 102, 103, 104, 105, 106, 107, 108, 109, 110, 111, 112, 113, 114, 115, 116, 117, 118, 119, 120, 121, 122, 123, 124, 125, 126, 127, 128, 129, 130, 131, 132] (by rfl) (by decide +kernel)
set_option maxRecDepth 20000 in
theorem gX8_part_X8_parts : GoodIn wsX8_part (wsV RX8 203 RX8 yX8_parts wsX8_parts) := goodIn_app (goodIn_of _ (by decide +kernel)) ggX8_part_X8_parts
set_option maxRecDepth 100000 in
theorem ggX8_part_X8_best : GoodIn wsX8_part wsX8_best := goodIn_r _ [94, 13, 6, 84, 5, 2, 88, 89, 10, 90, 95, 96, 97, 98, 99, 100, 101, 102, 103, 104, 105, 106, 107, 108, 109, 110, 111, 112, 113, 114, 115, 116, 117, 118, 119, 120, 121, 122, 123, 124, 125, 126, 127, 128, 129, 130, 131, 132] (by rfl) (by decide +kernel)
set_option maxRecDepth 20000 in
theorem gX8_part_X8_best : GoodIn wsX8_part (wsV RX8 206 RX8 yX8_best wsX8_best) := goodIn_app (goodIn_of _ (by decide +kernel)) ggX8_part_X8_best
theorem dX8_part_0 : decode cX8_part 0 = .ok (.aload_n 0, 1) := by decide +kernel
theorem dX8_part_1 : decode cX8_part 1 = .ok (.iconst 0, 1) := by decide +kernel
theorem dX8_part_2 : decode cX8_part 2 = .ok (.putfield 97, 3) := by decide +kernel
theorem dX8_part_5 : decode cX8_part 5 = .ok (.aload_n 0, 1) := by decide +kernel
theorem dX8_part_6 : decode cX8_part 6 = .ok (.invokevirtual 196, 3) := by decide +kernel
theorem dX8_part_9 : decode cX8_part 9 = .ok (.ifCond .ne 9, 3) := by decide +kernel
theorem dX8_part_12 : decode cX8_part 12 = .ok (.aload_n 0, 1) := by decide +kernel
theorem dX8_part_13 : decode cX8_part 13 = .ok (.iconst 5, 1) := by decide +kernel
theorem dX8_part_14 : decode cX8_part 14 = .ok (.invokevirtual 136, 3) := by decide +kernel
theorem dX8_part_17 : decode cX8_part 17 = .ok (.ireturn, 1) := by decide +kernel
theorem dX8_part_18 : decode cX8_part 18 = .ok (.aload_n 0, 1) := by decide +kernel
theorem dX8_part_19 : decode cX8_part 19 = .ok (.aload_n 0, 1) := by decide +kernel
theorem dX8_part_20 : decode cX8_part 20 = .ok (.getfield 175, 3) := by decide +kernel
theorem dX8_part_23 : decode cX8_part 23 = .ok (.putfield 91, 3) := by decide +kernel
theorem dX8_part_26 : decode cX8_part 26 = .ok (.aload_n 0, 1) := by decide +kernel
theorem dX8_part_27 : decode cX8_part 27 = .ok (.getfield 175, 3) := by decide +kernel
theorem dX8_part_30 : decode cX8_part 30 = .ok (.ifCond .ne 9, 3) := by decide +kernel
theorem dX8_part_33 : decode cX8_part 33 = .ok (.aload_n 0, 1) := by decide +kernel
theorem dX8_part_34 : decode cX8_part 34 = .ok (.iconst 0, 1) := by decide +kernel
theorem dX8_part_35 : decode cX8_part 35 = .ok (.invokevirtual 139, 3) := by decide +kernel
theorem dX8_part_38 : decode cX8_part 38 = .ok (.ireturn, 1) := by decide +kernel
theorem dX8_part_39 : decode cX8_part 39 = .ok (.aload_n 0, 1) := by decide +kernel
theorem dX8_part_40 : decode cX8_part 40 = .ok (.invokevirtual 200, 3) := by decide +kernel
theorem dX8_part_43 : decode cX8_part 43 = .ok (.aload_n 0, 1) := by decide +kernel
theorem dX8_part_44 : decode cX8_part 44 = .ok (.iconst (-1), 1) := by decide +kernel
theorem dX8_part_45 : decode cX8_part 45 = .ok (.iconst (-1), 1) := by decide +kernel
theorem dX8_part_46 : decode cX8_part 46 = .ok (.invokevirtual 203, 3) := by decide +kernel
theorem dX8_part_49 : decode cX8_part 49 = .ok (.aload_n 0, 1) := by decide +kernel
theorem dX8_part_50 : decode cX8_part 50 = .ok (.invokevirtual 206, 3) := by decide +kernel
theorem dX8_part_53 : decode cX8_part 53 = .ok (.istore_n 1, 1) := by decide +kernel
theorem dX8_part_54 : decode cX8_part 54 = .ok (.iconst 0, 1) := by decide +kernel
theorem dX8_part_55 : decode cX8_part 55 = .ok (.istore_n 2, 1) := by decide +kernel
theorem dX8_part_56 : decode cX8_part 56 = .ok (.iload_n 2, 1) := by decide +kernel
theorem dX8_part_57 : decode cX8_part 57 = .ok (.aload_n 0, 1) := by decide +kernel
theorem dX8_part_58 : decode cX8_part 58 = .ok (.getfield 175, 3) := by decide +kernel
theorem dX8_part_61 : decode cX8_part 61 = .ok (.if_icmp .ge 23, 3) := by decide +kernel
theorem dX8_part_64 : decode cX8_part 64 = .ok (.aload_n 0, 1) := by decide +kernel
theorem dX8_part_65 : decode cX8_part 65 = .ok (.getfield 88, 3) := by decide +kernel
theorem dX8_part_68 : decode cX8_part 68 = .ok (.iload_n 2, 1) := by decide +kernel
theorem dX8_part_69 : decode cX8_part 69 = .ok (.aload_n 0, 1) := by decide +kernel
theorem dX8_part_70 : decode cX8_part 70 = .ok (.getfield 82, 3) := by decide +kernel
theorem dX8_part_73 : decode cX8_part 73 = .ok (.iload_n 1, 1) := by decide +kernel
theorem dX8_part_74 : decode cX8_part 74 = .ok (.aaload, 1) := by decide +kernel
theorem dX8_part_75 : decode cX8_part 75 = .ok (.iload_n 2, 1) := by decide +kernel
theorem dX8_part_76 : decode cX8_part 76 = .ok (.baload, 1) := by decide +kernel
theorem dX8_part_77 : decode cX8_part 77 = .ok (.bastore, 1) := by decide +kernel
theorem dX8_part_78 : decode cX8_part 78 = .ok (.iinc 2 1, 3) := by decide +kernel
theorem dX8_part_81 : decode cX8_part 81 = .ok (.goto (-25), 3) := by decide +kernel
theorem dX8_part_84 : decode cX8_part 84 = .ok (.aload_n 0, 1) := by decide +kernel
