theorem dX7_freePlace_0 : decode cX7_freePlace 0 = .ok (.iconst 0, 1) := by decide +kernel
theorem dX7_freePlace_1 : decode cX7_freePlace 1 = .ok (.istore_n 1, 1) := by decide +kernel
theorem dX7_freePlace_2 : decode cX7_freePlace 2 = .ok (.iload_n 1, 1) := by decide +kernel
theorem dX7_freePlace_3 : decode cX7_freePlace 3 = .ok (.aload_n 0, 1) := by decide +kernel
theorem dX7_freePlace_4 : decode cX7_freePlace 4 = .ok (.getfield 26, 3) := by decide +kernel
theorem dX7_freePlace_7 : decode cX7_freePlace 7 = .ok (.arraylength, 1) := by decide +kernel
theorem dX7_freePlace_8 : decode cX7_freePlace 8 = .ok (.if_icmp .ge 20, 3) := by decide +kernel
theorem dX7_freePlace_11 : decode cX7_freePlace 11 = .ok (.aload_n 0, 1) := by decide +kernel
theorem dX7_freePlace_12 : decode cX7_freePlace 12 = .ok (.getfield 26, 3) := by decide +kernel
theorem dX7_freePlace_15 : decode cX7_freePlace 15 = .ok (.iload_n 1, 1) := by decide +kernel
theorem dX7_freePlace_16 : decode cX7_freePlace 16 = .ok (.aaload, 1) := by decide +kernel
theorem dX7_freePlace_17 : decode cX7_freePlace 17 = .ok (.ifnonnull 5, 3) := by decide +kernel
theorem dX7_freePlace_20 : decode cX7_freePlace 20 = .ok (.iload_n 1, 1) := by decide +kernel
theorem dX7_freePlace_21 : decode cX7_freePlace 21 = .ok (.ireturn, 1) := by decide +kernel
theorem dX7_freePlace_22 : decode cX7_freePlace 22 = .ok (.iinc 1 1, 3) := by decide +kernel
theorem dX7_freePlace_25 : decode cX7_freePlace 25 = .ok (.goto (-23), 3) := by decide +kernel
theorem dX7_freePlace_28 : decode cX7_freePlace 28 = .ok (.iconst (-1), 1) := by decide +kernel
theorem dX7_freePlace_29 : decode cX7_freePlace 29 = .ok (.ireturn, 1) := by decide +kernel
theorem dX7_placeOf_0 : decode cX7_placeOf 0 = .ok (.iconst 0, 1) := by decide +kernel
theorem dX7_placeOf_1 : decode cX7_placeOf 1 = .ok (.istore_n 2, 1) := by decide +kernel
theorem dX7_placeOf_2 : decode cX7_placeOf 2 = .ok (.iload_n 2, 1) := by decide +kernel
theorem dX7_placeOf_3 : decode cX7_placeOf 3 = .ok (.aload_n 0, 1) := by decide +kernel
theorem dX7_placeOf_4 : decode cX7_placeOf 4 = .ok (.getfield 26, 3) := by decide +kernel
theorem dX7_placeOf_7 : decode cX7_placeOf 7 = .ok (.arraylength, 1) := by decide +kernel
theorem dX7_placeOf_8 : decode cX7_placeOf 8 = .ok (.if_icmp .ge 30, 3) := by decide +kernel
theorem dX7_placeOf_11 : decode cX7_placeOf 11 = .ok (.aload_n 0, 1) := by decide +kernel
theorem dX7_placeOf_12 : decode cX7_placeOf 12 = .ok (.getfield 26, 3) := by decide +kernel
theorem dX7_placeOf_15 : decode cX7_placeOf 15 = .ok (.iload_n 2, 1) := by decide +kernel
theorem dX7_placeOf_16 : decode cX7_placeOf 16 = .ok (.aaload, 1) := by decide +kernel
theorem dX7_placeOf_17 : decode cX7_placeOf 17 = .ok (.astore_n 3, 1) := by decide +kernel
theorem dX7_placeOf_18 : decode cX7_placeOf 18 = .ok (.aload_n 3, 1) := by decide +kernel
theorem dX7_placeOf_19 : decode cX7_placeOf 19 = .ok (.ifnull 13, 3) := by decide +kernel
theorem dX7_placeOf_22 : decode cX7_placeOf 22 = .ok (.aload_n 3, 1) := by decide +kernel
theorem dX7_placeOf_23 : decode cX7_placeOf 23 = .ok (.getfield 137, 3) := by decide +kernel
theorem dX7_placeOf_26 : decode cX7_placeOf 26 = .ok (.iload_n 1, 1) := by decide +kernel
theorem dX7_placeOf_27 : decode cX7_placeOf 27 = .ok (.if_icmp .ne 5, 3) := by decide +kernel
theorem dX7_placeOf_30 : decode cX7_placeOf 30 = .ok (.iload_n 2, 1) := by decide +kernel
theorem dX7_placeOf_31 : decode cX7_placeOf 31 = .ok (.ireturn, 1) := by decide +kernel
theorem dX7_placeOf_32 : decode cX7_placeOf 32 = .ok (.iinc 2 1, 3) := by decide +kernel
theorem dX7_placeOf_35 : decode cX7_placeOf 35 = .ok (.goto (-33), 3) := by decide +kernel
theorem dX7_placeOf_38 : decode cX7_placeOf 38 = .ok (.iconst (-1), 1) := by decide +kernel
theorem dX7_placeOf_39 : decode cX7_placeOf 39 = .ok (.ireturn, 1) := by decide +kernel
set_option maxRecDepth 100000 in
theorem ggX7_trailOfDraft_X7_countsInDraft : GoodIn wsX7_trailOfDraft wsX7_countsInDraft := goodIn_r _ [15, 1, 16, 17, 18, 19, 20, 21, 22, 23, 24, 25, 26, 27, 28, 29, 30, 31, 32, 33, 34, 35, 36, 37, 38, 39, 40, 41, 42, 43, 44, 45, 46, 47, 48, 49, 50, 51, 52, 53, 54, 55, 56, 57, 58, 59, 60, 61, 62, 63, 64] (by rfl) (by decide +kernel)
set_option maxRecDepth 20000 in
theorem gX7_trailOfDraft_X7_countsInDraft : GoodIn wsX7_trailOfDraft (wsV RX7 266 RX7 yX7_countsInDraft wsX7_countsInDraft) := goodIn_app (goodIn_of _ (by decide +kernel)) ggX7_trailOfDraft_X7_countsInDraft
theorem dX7_trailOfDraft_0 : decode cX7_trailOfDraft 0 = .ok (.iconst 1, 1) := by decide +kernel
theorem dX7_trailOfDraft_1 : decode cX7_trailOfDraft 1 = .ok (.istore_n 1, 1) := by decide +kernel
theorem dX7_trailOfDraft_2 : decode cX7_trailOfDraft 2 = .ok (.iconst 0, 1) := by decide +kernel
theorem dX7_trailOfDraft_3 : decode cX7_trailOfDraft 3 = .ok (.istore_n 2, 1) := by decide +kernel
theorem dX7_trailOfDraft_4 : decode cX7_trailOfDraft 4 = .ok (.iload_n 2, 1) := by decide +kernel
theorem dX7_trailOfDraft_5 : decode cX7_trailOfDraft 5 = .ok (.aload_n 0, 1) := by decide +kernel
theorem dX7_trailOfDraft_6 : decode cX7_trailOfDraft 6 = .ok (.getfield 65, 3) := by decide +kernel
theorem dX7_trailOfDraft_9 : decode cX7_trailOfDraft 9 = .ok (.getfield 247, 3) := by decide +kernel
theorem dX7_trailOfDraft_12 : decode cX7_trailOfDraft 12 = .ok (.if_icmp .ge 35, 3) := by decide +kernel
theorem dX7_trailOfDraft_15 : decode cX7_trailOfDraft 15 = .ok (.iload_n 1, 1) := by decide +kernel
theorem dX7_trailOfDraft_16 : decode cX7_trailOfDraft 16 = .ok (.aload_n 0, 1) := by decide +kernel
theorem dX7_trailOfDraft_17 : decode cX7_trailOfDraft 17 = .ok (.iload_n 2, 1) := by decide +kernel
theorem dX7_trailOfDraft_18 : decode cX7_trailOfDraft 18 = .ok (.invokevirtual 266, 3) := by decide +kernel
theorem dX7_trailOfDraft_21 : decode cX7_trailOfDraft 21 = .ok (.ifCond .eq 17, 3) := by decide +kernel
theorem dX7_trailOfDraft_24 : decode cX7_trailOfDraft 24 = .ok (.aload_n 0, 1) := by decide +kernel
theorem dX7_trailOfDraft_25 : decode cX7_trailOfDraft 25 = .ok (.getfield 65, 3) := by decide +kernel
theorem dX7_trailOfDraft_28 : decode cX7_trailOfDraft 28 = .ok (.getfield 191, 3) := by decide +kernel
theorem dX7_trailOfDraft_31 : decode cX7_trailOfDraft 31 = .ok (.iload_n 2, 1) := by decide +kernel
theorem dX7_trailOfDraft_32 : decode cX7_trailOfDraft 32 = .ok (.iaload, 1) := by decide +kernel
theorem dX7_trailOfDraft_33 : decode cX7_trailOfDraft 33 = .ok (.iconst 1, 1) := by decide +kernel
theorem dX7_trailOfDraft_34 : decode cX7_trailOfDraft 34 = .ok (.iadd, 1) := by decide +kernel
theorem dX7_trailOfDraft_35 : decode cX7_trailOfDraft 35 = .ok (.goto 4, 3) := by decide +kernel
theorem dX7_trailOfDraft_38 : decode cX7_trailOfDraft 38 = .ok (.iconst 0, 1) := by decide +kernel
theorem dX7_trailOfDraft_39 : decode cX7_trailOfDraft 39 = .ok (.iadd, 1) := by decide +kernel
theorem dX7_trailOfDraft_40 : decode cX7_trailOfDraft 40 = .ok (.istore_n 1, 1) := by decide +kernel
theorem dX7_trailOfDraft_41 : decode cX7_trailOfDraft 41 = .ok (.iinc 2 1, 3) := by decide +kernel
theorem dX7_trailOfDraft_44 : decode cX7_trailOfDraft 44 = .ok (.goto (-40), 3) := by decide +kernel
theorem dX7_trailOfDraft_47 : decode cX7_trailOfDraft 47 = .ok (.iload_n 1, 1) := by decide +kernel
theorem dX7_trailOfDraft_48 : decode cX7_trailOfDraft 48 = .ok (.newarray .byte, 2) := by decide +kernel
theorem dX7_trailOfDraft_50 : decode cX7_trailOfDraft 50 = .ok (.astore_n 2, 1) := by decide +kernel
theorem dX7_trailOfDraft_51 : decode cX7_trailOfDraft 51 = .ok (.aload_n 2, 1) := by decide +kernel
theorem dX7_trailOfDraft_52 : decode cX7_trailOfDraft 52 = .ok (.iconst 0, 1) := by decide +kernel
theorem dX7_trailOfDraft_53 : decode cX7_trailOfDraft 53 = .ok (.bipush 27, 2) := by decide +kernel
theorem dX7_trailOfDraft_55 : decode cX7_trailOfDraft 55 = .ok (.bastore, 1) := by decide +kernel
theorem dX7_trailOfDraft_56 : decode cX7_trailOfDraft 56 = .ok (.iconst 1, 1) := by decide +kernel
theorem dX7_trailOfDraft_57 : decode cX7_trailOfDraft 57 = .ok (.istore_n 3, 1) := by decide +kernel
theorem dX7_trailOfDraft_58 : decode cX7_trailOfDraft 58 = .ok (.iconst 0, 1) := by decide +kernel
theorem dX7_trailOfDraft_59 : decode cX7_trailOfDraft 59 = .ok (.istore 4, 2) := by decide +kernel
theorem dX7_trailOfDraft_61 : decode cX7_trailOfDraft 61 = .ok (.iload 4, 2) := by decide +kernel
theorem dX7_trailOfDraft_63 : decode cX7_trailOfDraft 63 = .ok (.aload_n 0, 1) := by decide +kernel
theorem dX7_trailOfDraft_64 : decode cX7_trailOfDraft 64 = .ok (.getfield 65, 3) := by decide +kernel
theorem dX7_trailOfDraft_67 : decode cX7_trailOfDraft 67 = .ok (.getfield 247, 3) := by decide +kernel
theorem dX7_trailOfDraft_70 : decode cX7_trailOfDraft 70 = .ok (.if_icmp .ge 71, 3) := by decide +kernel
theorem dX7_trailOfDraft_73 : decode cX7_trailOfDraft 73 = .ok (.aload_n 0, 1) := by decide +kernel
theorem dX7_trailOfDraft_74 : decode cX7_trailOfDraft 74 = .ok (.iload 4, 2) := by decide +kernel
theorem dX7_trailOfDraft_76 : decode cX7_trailOfDraft 76 = .ok (.invokevirtual 266, 3) := by decide +kernel
theorem dX7_trailOfDraft_79 : decode cX7_trailOfDraft 79 = .ok (.ifCond .eq 56, 3) := by decide +kernel
theorem dX7_trailOfDraft_82 : decode cX7_trailOfDraft 82 = .ok (.aload_n 0, 1) := by decide +kernel
theorem dX7_trailOfDraft_83 : decode cX7_trailOfDraft 83 = .ok (.getfield 65, 3) := by decide +kernel
theorem dX7_trailOfDraft_86 : decode cX7_trailOfDraft 86 = .ok (.getfield 174, 3) := by decide +kernel
theorem dX7_trailOfDraft_89 : decode cX7_trailOfDraft 89 = .ok (.aload_n 0, 1) := by decide +kernel
theorem dX7_trailOfDraft_90 : decode cX7_trailOfDraft 90 = .ok (.getfield 65, 3) := by decide +kernel
theorem dX7_trailOfDraft_93 : decode cX7_trailOfDraft 93 = .ok (.getfield 188, 3) := by decide +kernel
theorem dX7_trailOfDraft_96 : decode cX7_trailOfDraft 96 = .ok (.iload 4, 2) := by decide +kernel
theorem dX7_trailOfDraft_98 : decode cX7_trailOfDraft 98 = .ok (.iaload, 1) := by decide +kernel
theorem dX7_trailOfDraft_99 : decode cX7_trailOfDraft 99 = .ok (.aload_n 2, 1) := by decide +kernel
theorem dX7_trailOfDraft_100 : decode cX7_trailOfDraft 100 = .ok (.iload_n 3, 1) := by decide +kernel
theorem dX7_trailOfDraft_101 : decode cX7_trailOfDraft 101 = .ok (.aload_n 0, 1) := by decide +kernel
theorem dX7_trailOfDraft_102 : decode cX7_trailOfDraft 102 = .ok (.getfield 65, 3) := by decide +kernel
theorem dX7_trailOfDraft_105 : decode cX7_trailOfDraft 105 = .ok (.getfield 191, 3) := by decide +kernel
theorem dX7_trailOfDraft_108 : decode cX7_trailOfDraft 108 = .ok (.iload 4, 2) := by decide +kernel
theorem dX7_trailOfDraft_110 : decode cX7_trailOfDraft 110 = .ok (.iaload, 1) := by decide +kernel
theorem dX7_trailOfDraft_111 : decode cX7_trailOfDraft 111 = .ok (.invokestatic 269, 3) := by decide +kernel
theorem dX7_trailOfDraft_114 : decode cX7_trailOfDraft 114 = .ok (.iload_n 3, 1) := by decide +kernel
theorem dX7_trailOfDraft_115 : decode cX7_trailOfDraft 115 = .ok (.aload_n 0, 1) := by decide +kernel
theorem dX7_trailOfDraft_116 : decode cX7_trailOfDraft 116 = .ok (.getfield 65, 3) := by decide +kernel
theorem dX7_trailOfDraft_119 : decode cX7_trailOfDraft 119 = .ok (.getfield 191, 3) := by decide +kernel
theorem dX7_trailOfDraft_122 : decode cX7_trailOfDraft 122 = .ok (.iload 4, 2) := by decide +kernel
theorem dX7_trailOfDraft_124 : decode cX7_trailOfDraft 124 = .ok (.iaload, 1) := by decide +kernel
theorem dX7_trailOfDraft_125 : decode cX7_trailOfDraft 125 = .ok (.iadd, 1) := by decide +kernel
theorem dX7_trailOfDraft_126 : decode cX7_trailOfDraft 126 = .ok (.istore_n 3, 1) := by decide +kernel
theorem dX7_trailOfDraft_127 : decode cX7_trailOfDraft 127 = .ok (.aload_n 2, 1) := by decide +kernel
theorem dX7_trailOfDraft_128 : decode cX7_trailOfDraft 128 = .ok (.iload_n 3, 1) := by decide +kernel
theorem dX7_trailOfDraft_129 : decode cX7_trailOfDraft 129 = .ok (.bipush 27, 2) := by decide +kernel
theorem dX7_trailOfDraft_131 : decode cX7_trailOfDraft 131 = .ok (.bastore, 1) := by decide +kernel
theorem dX7_trailOfDraft_132 : decode cX7_trailOfDraft 132 = .ok (.iinc 3 1, 3) := by decide +kernel
theorem dX7_trailOfDraft_135 : decode cX7_trailOfDraft 135 = .ok (.iinc 4 1, 3) := by decide +kernel
theorem dX7_trailOfDraft_138 : decode cX7_trailOfDraft 138 = .ok (.goto (-77), 3) := by decide +kernel
theorem dX7_trailOfDraft_141 : decode cX7_trailOfDraft 141 = .ok (.aload_n 2, 1) := by decide +kernel
theorem dX7_trailOfDraft_142 : decode cX7_trailOfDraft 142 = .ok (.areturn, 1) := by decide +kernel
set_option maxRecDepth 100000 in
theorem ggX7_countsInDraft_X2_isMark : GoodIn wsX7_countsInDraft wsX2_isMark := goodIn_r _ [7, 8, 9, 43, 44, 45, 46, 47] (by rfl) (by decide +kernel)
set_option maxRecDepth 20000 in
theorem gX7_countsInDraft_X2_isMark : GoodIn wsX7_countsInDraft (wsV RX7 263 RX2 yX2_isMark wsX2_isMark) := goodIn_app (goodIn_of _ (by decide +kernel)) ggX7_countsInDraft_X2_isMark
set_option maxRecDepth 100000 in
theorem ggX7_countsInDraft_X6_placeOf : GoodIn wsX7_countsInDraft wsX6_placeOf := goodIn_r _ [14, 15, 16, 17, 18, 13, 19, 20, 21, 22, 23, 24, 48, 49, 50, 43, 44, 45, 46, 47] (by rfl) (by decide +kernel)
set_option maxRecDepth 20000 in
theorem gX7_countsInDraft_X6_placeOf : GoodIn wsX7_countsInDraft (wsV RX7 149 RX6 yX6_placeOf wsX6_placeOf) := goodIn_app (goodIn_of _ (by decide +kernel)) ggX7_countsInDraft_X6_placeOf
theorem dX7_countsInDraft_0 : decode cX7_countsInDraft 0 = .ok (.aload_n 0, 1) := by decide +kernel
theorem dX7_countsInDraft_1 : decode cX7_countsInDraft 1 = .ok (.getfield 65, 3) := by decide +kernel
theorem dX7_countsInDraft_4 : decode cX7_countsInDraft 4 = .ok (.iload_n 1, 1) := by decide +kernel
theorem dX7_countsInDraft_5 : decode cX7_countsInDraft 5 = .ok (.invokevirtual 263, 3) := by decide +kernel
theorem dX7_countsInDraft_8 : decode cX7_countsInDraft 8 = .ok (.ifCond .ne 23, 3) := by decide +kernel
theorem dX7_countsInDraft_11 : decode cX7_countsInDraft 11 = .ok (.aload_n 0, 1) := by decide +kernel
theorem dX7_countsInDraft_12 : decode cX7_countsInDraft 12 = .ok (.getfield 49, 3) := by decide +kernel
theorem dX7_countsInDraft_15 : decode cX7_countsInDraft 15 = .ok (.aload_n 0, 1) := by decide +kernel
theorem dX7_countsInDraft_16 : decode cX7_countsInDraft 16 = .ok (.getfield 65, 3) := by decide +kernel
theorem dX7_countsInDraft_19 : decode cX7_countsInDraft 19 = .ok (.iload_n 1, 1) := by decide +kernel
theorem dX7_countsInDraft_20 : decode cX7_countsInDraft 20 = .ok (.invokevirtual 149, 3) := by decide +kernel
theorem dX7_countsInDraft_23 : decode cX7_countsInDraft 23 = .ok (.iconst (-1), 1) := by decide +kernel
theorem dX7_countsInDraft_24 : decode cX7_countsInDraft 24 = .ok (.if_icmp .ne 7, 3) := by decide +kernel
theorem dX7_countsInDraft_27 : decode cX7_countsInDraft 27 = .ok (.iconst 1, 1) := by decide +kernel
theorem dX7_countsInDraft_28 : decode cX7_countsInDraft 28 = .ok (.goto 4, 3) := by decide +kernel
theorem dX7_countsInDraft_31 : decode cX7_countsInDraft 31 = .ok (.iconst 0, 1) := by decide +kernel
theorem dX7_countsInDraft_32 : decode cX7_countsInDraft 32 = .ok (.ireturn, 1) := by decide +kernel
theorem dX7_isWord_0 : decode cX7_isWord 0 = .ok (.iload_n 1, 1) := by decide +kernel
theorem dX7_isWord_1 : decode cX7_isWord 1 = .ok (.ifCond .lt 18, 3) := by decide +kernel
theorem dX7_isWord_4 : decode cX7_isWord 4 = .ok (.iload_n 1, 1) := by decide +kernel
theorem dX7_isWord_5 : decode cX7_isWord 5 = .ok (.aload_n 0, 1) := by decide +kernel
theorem dX7_isWord_6 : decode cX7_isWord 6 = .ok (.getfield 61, 3) := by decide +kernel
theorem dX7_isWord_9 : decode cX7_isWord 9 = .ok (.getfield 247, 3) := by decide +kernel
theorem dX7_isWord_12 : decode cX7_isWord 12 = .ok (.if_icmp .ge 7, 3) := by decide +kernel
theorem dX7_isWord_15 : decode cX7_isWord 15 = .ok (.iconst 1, 1) := by decide +kernel
theorem dX7_isWord_16 : decode cX7_isWord 16 = .ok (.goto 4, 3) := by decide +kernel
theorem dX7_isWord_19 : decode cX7_isWord 19 = .ok (.iconst 0, 1) := by decide +kernel
theorem dX7_isWord_20 : decode cX7_isWord 20 = .ok (.ireturn, 1) := by decide +kernel
theorem dX7_canPart_0 : decode cX7_canPart 0 = .ok (.aload_n 0, 1) := by decide +kernel
theorem dX7_canPart_1 : decode cX7_canPart 1 = .ok (.getfield 68, 3) := by decide +kernel
theorem dX7_canPart_4 : decode cX7_canPart 4 = .ok (.ifCond .eq 17, 3) := by decide +kernel
theorem dX7_canPart_7 : decode cX7_canPart 7 = .ok (.aload_n 0, 1) := by decide +kernel
theorem dX7_canPart_8 : decode cX7_canPart 8 = .ok (.getfield 20, 3) := by decide +kernel
theorem dX7_canPart_11 : decode cX7_canPart 11 = .ok (.getfield 99, 3) := by decide +kernel
theorem dX7_canPart_14 : decode cX7_canPart 14 = .ok (.ifCond .le 7, 3) := by decide +kernel
theorem dX7_canPart_17 : decode cX7_canPart 17 = .ok (.iconst 1, 1) := by decide +kernel
theorem dX7_canPart_18 : decode cX7_canPart 18 = .ok (.goto 4, 3) := by decide +kernel
theorem dX7_canPart_21 : decode cX7_canPart 21 = .ok (.iconst 0, 1) := by decide +kernel
theorem dX7_canPart_22 : decode cX7_canPart 22 = .ok (.ireturn, 1) := by decide +kernel
set_option maxRecDepth 100000 in
theorem ggX7_kindOfWord_X2_isMark : GoodIn wsX7_kindOfWord wsX2_isMark := goodIn_r _ [8, 9, 10, 44, 45, 46, 47, 48] (by rfl) (by decide +kernel)
set_option maxRecDepth 20000 in
theorem gX7_kindOfWord_X2_isMark : GoodIn wsX7_kindOfWord (wsV RX7 263 RX2 yX2_isMark wsX2_isMark) := goodIn_app (goodIn_of _ (by decide +kernel)) ggX7_kindOfWord_X2_isMark
set_option maxRecDepth 100000 in
theorem ggX7_kindOfWord_X6_placeOf : GoodIn wsX7_kindOfWord wsX6_placeOf := goodIn_r _ [15, 16, 17, 18, 19, 14, 20, 21, 22, 23, 24, 25, 49, 50, 51, 44, 45, 46, 47, 48] (by rfl) (by decide +kernel)
set_option maxRecDepth 20000 in
theorem gX7_kindOfWord_X6_placeOf : GoodIn wsX7_kindOfWord (wsV RX7 149 RX6 yX6_placeOf wsX6_placeOf) := goodIn_app (goodIn_of _ (by decide +kernel)) ggX7_kindOfWord_X6_placeOf
theorem dX7_kindOfWord_0 : decode cX7_kindOfWord 0 = .ok (.aload_n 0, 1) := by decide +kernel
theorem dX7_kindOfWord_1 : decode cX7_kindOfWord 1 = .ok (.getfield 61, 3) := by decide +kernel
theorem dX7_kindOfWord_4 : decode cX7_kindOfWord 4 = .ok (.iload_n 1, 1) := by decide +kernel
theorem dX7_kindOfWord_5 : decode cX7_kindOfWord 5 = .ok (.invokevirtual 263, 3) := by decide +kernel
theorem dX7_kindOfWord_8 : decode cX7_kindOfWord 8 = .ok (.ifCond .eq 5, 3) := by decide +kernel
theorem dX7_kindOfWord_11 : decode cX7_kindOfWord 11 = .ok (.iconst 1, 1) := by decide +kernel
theorem dX7_kindOfWord_12 : decode cX7_kindOfWord 12 = .ok (.ireturn, 1) := by decide +kernel
theorem dX7_kindOfWord_13 : decode cX7_kindOfWord 13 = .ok (.aload_n 0, 1) := by decide +kernel
theorem dX7_kindOfWord_14 : decode cX7_kindOfWord 14 = .ok (.getfield 49, 3) := by decide +kernel
theorem dX7_kindOfWord_17 : decode cX7_kindOfWord 17 = .ok (.aload_n 0, 1) := by decide +kernel
theorem dX7_kindOfWord_18 : decode cX7_kindOfWord 18 = .ok (.getfield 61, 3) := by decide +kernel
theorem dX7_kindOfWord_21 : decode cX7_kindOfWord 21 = .ok (.iload_n 1, 1) := by decide +kernel
theorem dX7_kindOfWord_22 : decode cX7_kindOfWord 22 = .ok (.invokevirtual 149, 3) := by decide +kernel
theorem dX7_kindOfWord_25 : decode cX7_kindOfWord 25 = .ok (.iconst (-1), 1) := by decide +kernel
theorem dX7_kindOfWord_26 : decode cX7_kindOfWord 26 = .ok (.if_icmp .eq 5, 3) := by decide +kernel
theorem dX7_kindOfWord_29 : decode cX7_kindOfWord 29 = .ok (.iconst 2, 1) := by decide +kernel
theorem dX7_kindOfWord_30 : decode cX7_kindOfWord 30 = .ok (.ireturn, 1) := by decide +kernel
theorem dX7_kindOfWord_31 : decode cX7_kindOfWord 31 = .ok (.aload_n 0, 1) := by decide +kernel
theorem dX7_kindOfWord_32 : decode cX7_kindOfWord 32 = .ok (.getfield 41, 3) := by decide +kernel
theorem dX7_kindOfWord_35 : decode cX7_kindOfWord 35 = .ok (.aload_n 0, 1) := by decide +kernel
theorem dX7_kindOfWord_36 : decode cX7_kindOfWord 36 = .ok (.getfield 61, 3) := by decide +kernel
theorem dX7_kindOfWord_39 : decode cX7_kindOfWord 39 = .ok (.iload_n 1, 1) := by decide +kernel
theorem dX7_kindOfWord_40 : decode cX7_kindOfWord 40 = .ok (.invokevirtual 149, 3) := by decide +kernel
theorem dX7_kindOfWord_43 : decode cX7_kindOfWord 43 = .ok (.iconst (-1), 1) := by decide +kernel
theorem dX7_kindOfWord_44 : decode cX7_kindOfWord 44 = .ok (.if_icmp .eq 7, 3) := by decide +kernel
theorem dX7_kindOfWord_47 : decode cX7_kindOfWord 47 = .ok (.iconst 3, 1) := by decide +kernel
theorem dX7_kindOfWord_48 : decode cX7_kindOfWord 48 = .ok (.goto 4, 3) := by decide +kernel
theorem dX7_kindOfWord_51 : decode cX7_kindOfWord 51 = .ok (.iconst 0, 1) := by decide +kernel
theorem dX7_kindOfWord_52 : decode cX7_kindOfWord 52 = .ok (.ireturn, 1) := by decide +kernel
set_option maxRecDepth 100000 in
theorem ggX7_keepersOf_X2_isMark : GoodIn wsX7_keepersOf wsX2_isMark := goodIn_r _ [9, 10, 11, 45, 46, 47, 48, 49] (by rfl) (by decide +kernel)
set_option maxRecDepth 20000 in
theorem gX7_keepersOf_X2_isMark : GoodIn wsX7_keepersOf (wsV RX7 263 RX2 yX2_isMark wsX2_isMark) := goodIn_app (goodIn_of _ (by decide +kernel)) ggX7_keepersOf_X2_isMark
set_option maxRecDepth 100000 in
theorem ggX7_keepersOf_X6_placeOf : GoodIn wsX7_keepersOf wsX6_placeOf := goodIn_r _ [16, 17, 18, 19, 20, 15, 21, 22, 23, 24, 25, 26, 50, 51, 52, 45, 46, 47, 48, 49] (by rfl) (by decide +kernel)
set_option maxRecDepth 20000 in
theorem gX7_keepersOf_X6_placeOf : GoodIn wsX7_keepersOf (wsV RX7 149 RX6 yX6_placeOf wsX6_placeOf) := goodIn_app (goodIn_of _ (by decide +kernel)) ggX7_keepersOf_X6_placeOf
theorem dX7_keepersOf_0 : decode cX7_keepersOf 0 = .ok (.aload_n 0, 1) := by decide +kernel
theorem dX7_keepersOf_1 : decode cX7_keepersOf 1 = .ok (.getfield 61, 3) := by decide +kernel
theorem dX7_keepersOf_4 : decode cX7_keepersOf 4 = .ok (.iload_n 1, 1) := by decide +kernel
theorem dX7_keepersOf_5 : decode cX7_keepersOf 5 = .ok (.invokevirtual 263, 3) := by decide +kernel
theorem dX7_keepersOf_8 : decode cX7_keepersOf 8 = .ok (.ifCond .ne 19, 3) := by decide +kernel
theorem dX7_keepersOf_11 : decode cX7_keepersOf 11 = .ok (.aload_n 0, 1) := by decide +kernel
theorem dX7_keepersOf_12 : decode cX7_keepersOf 12 = .ok (.getfield 49, 3) := by decide +kernel
theorem dX7_keepersOf_15 : decode cX7_keepersOf 15 = .ok (.aload_n 0, 1) := by decide +kernel
theorem dX7_keepersOf_16 : decode cX7_keepersOf 16 = .ok (.getfield 61, 3) := by decide +kernel
theorem dX7_keepersOf_19 : decode cX7_keepersOf 19 = .ok (.iload_n 1, 1) := by decide +kernel
theorem dX7_keepersOf_20 : decode cX7_keepersOf 20 = .ok (.invokevirtual 149, 3) := by decide +kernel
theorem dX7_keepersOf_23 : decode cX7_keepersOf 23 = .ok (.iconst (-1), 1) := by decide +kernel
theorem dX7_keepersOf_24 : decode cX7_keepersOf 24 = .ok (.if_icmp .eq 5, 3) := by decide +kernel
theorem dX7_keepersOf_27 : decode cX7_keepersOf 27 = .ok (.iconst (-1), 1) := by decide +kernel
theorem dX7_keepersOf_28 : decode cX7_keepersOf 28 = .ok (.ireturn, 1) := by decide +kernel
theorem dX7_keepersOf_29 : decode cX7_keepersOf 29 = .ok (.aload_n 0, 1) := by decide +kernel
theorem dX7_keepersOf_30 : decode cX7_keepersOf 30 = .ok (.getfield 41, 3) := by decide +kernel
theorem dX7_keepersOf_33 : decode cX7_keepersOf 33 = .ok (.aload_n 0, 1) := by decide +kernel
theorem dX7_keepersOf_34 : decode cX7_keepersOf 34 = .ok (.getfield 61, 3) := by decide +kernel
theorem dX7_keepersOf_37 : decode cX7_keepersOf 37 = .ok (.iload_n 1, 1) := by decide +kernel
theorem dX7_keepersOf_38 : decode cX7_keepersOf 38 = .ok (.invokevirtual 149, 3) := by decide +kernel
theorem dX7_keepersOf_41 : decode cX7_keepersOf 41 = .ok (.istore_n 2, 1) := by decide +kernel
theorem dX7_keepersOf_42 : decode cX7_keepersOf 42 = .ok (.iload_n 2, 1) := by decide +kernel
theorem dX7_keepersOf_43 : decode cX7_keepersOf 43 = .ok (.iconst (-1), 1) := by decide +kernel
theorem dX7_keepersOf_44 : decode cX7_keepersOf 44 = .ok (.if_icmp .ne 7, 3) := by decide +kernel
theorem dX7_keepersOf_47 : decode cX7_keepersOf 47 = .ok (.iconst 0, 1) := by decide +kernel
theorem dX7_keepersOf_48 : decode cX7_keepersOf 48 = .ok (.goto 9, 3) := by decide +kernel
theorem dX7_keepersOf_51 : decode cX7_keepersOf 51 = .ok (.aload_n 0, 1) := by decide +kernel
theorem dX7_keepersOf_52 : decode cX7_keepersOf 52 = .ok (.getfield 45, 3) := by decide +kernel
theorem dX7_keepersOf_55 : decode cX7_keepersOf 55 = .ok (.iload_n 2, 1) := by decide +kernel
theorem dX7_keepersOf_56 : decode cX7_keepersOf 56 = .ok (.iaload, 1) := by decide +kernel
theorem dX7_keepersOf_57 : decode cX7_keepersOf 57 = .ok (.ireturn, 1) := by decide +kernel
set_option maxRecDepth 100000 in
theorem ggX7_costInTongue_X4_costOfSpelling : GoodIn wsX7_costInTongue wsX4_costOfSpelling := goodIn_r _ [7, 8, 9, 10, 11, 12, 13, 6, 14, 15, 16, 17, 18, 19, 38, 39, 40, 41, 42, 43, 44] (by rfl) (by decide +kernel)
set_option maxRecDepth 20000 in
theorem gX7_costInTongue_X4_costOfSpelling : GoodIn wsX7_costInTongue (wsV RX7 275 RX4 yX4_costOfSpelling wsX4_costOfSpelling) := goodIn_app (goodIn_of _ (by decide +kernel)) ggX7_costInTongue_X4_costOfSpelling
theorem dX7_costInTongue_0 : decode cX7_costInTongue 0 = .ok (.iload_n 3, 1) := by decide +kernel
theorem dX7_costInTongue_1 : decode cX7_costInTongue 1 = .ok (.iconst (-1), 1) := by decide +kernel
theorem dX7_costInTongue_2 : decode cX7_costInTongue 2 = .ok (.if_icmp .eq 11, 3) := by decide +kernel
theorem dX7_costInTongue_5 : decode cX7_costInTongue 5 = .ok (.iload_n 3, 1) := by decide +kernel
theorem dX7_costInTongue_6 : decode cX7_costInTongue 6 = .ok (.iload_n 2, 1) := by decide +kernel
theorem dX7_costInTongue_7 : decode cX7_costInTongue 7 = .ok (.ishr, 1) := by decide +kernel
theorem dX7_costInTongue_8 : decode cX7_costInTongue 8 = .ok (.iconst 1, 1) := by decide +kernel
theorem dX7_costInTongue_9 : decode cX7_costInTongue 9 = .ok (.iand, 1) := by decide +kernel
theorem dX7_costInTongue_10 : decode cX7_costInTongue 10 = .ok (.ifCond .eq 5, 3) := by decide +kernel
theorem dX7_costInTongue_13 : decode cX7_costInTongue 13 = .ok (.iconst 0, 1) := by decide +kernel
theorem dX7_costInTongue_14 : decode cX7_costInTongue 14 = .ok (.ireturn, 1) := by decide +kernel
theorem dX7_costInTongue_15 : decode cX7_costInTongue 15 = .ok (.aload_n 0, 1) := by decide +kernel
theorem dX7_costInTongue_16 : decode cX7_costInTongue 16 = .ok (.getfield 20, 3) := by decide +kernel
theorem dX7_costInTongue_19 : decode cX7_costInTongue 19 = .ok (.iload_n 2, 1) := by decide +kernel
theorem dX7_costInTongue_20 : decode cX7_costInTongue 20 = .ok (.aload_n 0, 1) := by decide +kernel
theorem dX7_costInTongue_21 : decode cX7_costInTongue 21 = .ok (.getfield 61, 3) := by decide +kernel
theorem dX7_costInTongue_24 : decode cX7_costInTongue 24 = .ok (.iload_n 1, 1) := by decide +kernel
theorem dX7_costInTongue_25 : decode cX7_costInTongue 25 = .ok (.invokevirtual 275, 3) := by decide +kernel
theorem dX7_costInTongue_28 : decode cX7_costInTongue 28 = .ok (.istore 4, 2) := by decide +kernel
theorem dX7_costInTongue_30 : decode cX7_costInTongue 30 = .ok (.iload_n 3, 1) := by decide +kernel
theorem dX7_costInTongue_31 : decode cX7_costInTongue 31 = .ok (.ifCond .ne 8, 3) := by decide +kernel
theorem dX7_costInTongue_34 : decode cX7_costInTongue 34 = .ok (.iload 4, 2) := by decide +kernel
theorem dX7_costInTongue_36 : decode cX7_costInTongue 36 = .ok (.goto 9, 3) := by decide +kernel
theorem dX7_costInTongue_39 : decode cX7_costInTongue 39 = .ok (.iload 4, 2) := by decide +kernel
theorem dX7_costInTongue_41 : decode cX7_costInTongue 41 = .ok (.sipush 300, 3) := by decide +kernel
theorem dX7_costInTongue_44 : decode cX7_costInTongue 44 = .ok (.iadd, 1) := by decide +kernel
theorem dX7_costInTongue_45 : decode cX7_costInTongue 45 = .ok (.ireturn, 1) := by decide +kernel
set_option maxRecDepth 100000 in
theorem ggX7_weighText_X5_begin : GoodIn wsX7_weighText wsX5_begin := goodIn_r _ [12, 13, 14, 15, 16, 93, 94, 95, 96, 97, 98, 99, 100, 101] (by rfl) (by decide +kernel)
set_option maxRecDepth 20000 in
theorem gX7_weighText_X5_begin : GoodIn wsX7_weighText (wsV RX7 279 RX5 yX5_begin wsX5_begin) := goodIn_app (goodIn_of _ (by decide +kernel)) ggX7_weighText_X5_begin
set_option maxRecDepth 100000 in
theorem ggX7_weighText_X7_keepersOf : GoodIn wsX7_weighText wsX7_keepersOf := goodIn_r _ [21, 2, 22, 23, 24, 25, 26, 27, 28, 29, 30, 31, 32, 33, 34, 35, 36, 37, 38, 39, 40, 41, 42, 43, 44, 45, 46, 68, 69, 70, 71, 72, 73, 74, 75, 76, 77, 78, 79, 80, 81, 82, 83, 84, 85, 86, 87, 88, 89, 90, 102, 103, 104] (by rfl) (by decide +kernel)
set_option maxRecDepth 20000 in
theorem gX7_weighText_X7_keepersOf : GoodIn wsX7_weighText (wsV RX7 197 RX7 yX7_keepersOf wsX7_keepersOf) := goodIn_app (goodIn_of _ (by decide +kernel)) ggX7_weighText_X7_keepersOf
set_option maxRecDepth 100000 in
theorem ggX7_weighText_X7_costInTongue : GoodIn wsX7_weighText wsX7_costInTongue := goodIn_r _ [50, 4, 2, 51, 52, 53, 54, 55, 56, 57, 58, 59, 60, 61, 62, 63, 64, 65, 66, 67, 68, 69, 70, 71, 72, 73, 74, 75, 76, 77, 78, 79, 80, 81, 82, 83, 84, 85, 86, 87, 88, 89, 90, 91, 92] (by rfl) (by decide +kernel)
set_option maxRecDepth 20000 in
theorem gX7_weighText_X7_costInTongue : GoodIn wsX7_weighText (wsV RX7 200 RX7 yX7_costInTongue wsX7_costInTongue) := goodIn_app (goodIn_of _ (by decide +kernel)) ggX7_weighText_X7_costInTongue
theorem dX7_weighText_0 : decode cX7_weighText 0 = .ok (.aload_n 0, 1) := by decide +kernel
theorem dX7_weighText_1 : decode cX7_weighText 1 = .ok (.getfield 75, 3) := by decide +kernel
theorem dX7_weighText_4 : decode cX7_weighText 4 = .ok (.aload_n 0, 1) := by decide +kernel
theorem dX7_weighText_5 : decode cX7_weighText 5 = .ok (.getfield 61, 3) := by decide +kernel
theorem dX7_weighText_8 : decode cX7_weighText 8 = .ok (.getfield 247, 3) := by decide +kernel
theorem dX7_weighText_11 : decode cX7_weighText 11 = .ok (.aload_n 0, 1) := by decide +kernel
theorem dX7_weighText_12 : decode cX7_weighText 12 = .ok (.getfield 20, 3) := by decide +kernel
theorem dX7_weighText_15 : decode cX7_weighText 15 = .ok (.getfield 99, 3) := by decide +kernel
theorem dX7_weighText_18 : decode cX7_weighText 18 = .ok (.aload_n 0, 1) := by decide +kernel
theorem dX7_weighText_19 : decode cX7_weighText 19 = .ok (.getfield 52, 3) := by decide +kernel
theorem dX7_weighText_22 : decode cX7_weighText 22 = .ok (.invokevirtual 279, 3) := by decide +kernel
theorem dX7_weighText_25 : decode cX7_weighText 25 = .ok (.iconst 0, 1) := by decide +kernel
theorem dX7_weighText_26 : decode cX7_weighText 26 = .ok (.istore_n 1, 1) := by decide +kernel
theorem dX7_weighText_27 : decode cX7_weighText 27 = .ok (.iload_n 1, 1) := by decide +kernel
theorem dX7_weighText_28 : decode cX7_weighText 28 = .ok (.aload_n 0, 1) := by decide +kernel
theorem dX7_weighText_29 : decode cX7_weighText 29 = .ok (.getfield 61, 3) := by decide +kernel
theorem dX7_weighText_32 : decode cX7_weighText 32 = .ok (.getfield 247, 3) := by decide +kernel
theorem dX7_weighText_35 : decode cX7_weighText 35 = .ok (.if_icmp .ge 55, 3) := by decide +kernel
theorem dX7_weighText_38 : decode cX7_weighText 38 = .ok (.aload_n 0, 1) := by decide +kernel
theorem dX7_weighText_39 : decode cX7_weighText 39 = .ok (.iload_n 1, 1) := by decide +kernel
theorem dX7_weighText_40 : decode cX7_weighText 40 = .ok (.invokevirtual 197, 3) := by decide +kernel
theorem dX7_weighText_43 : decode cX7_weighText 43 = .ok (.istore_n 2, 1) := by decide +kernel
theorem dX7_weighText_44 : decode cX7_weighText 44 = .ok (.iconst 0, 1) := by decide +kernel
theorem dX7_weighText_45 : decode cX7_weighText 45 = .ok (.istore_n 3, 1) := by decide +kernel
theorem dX7_weighText_46 : decode cX7_weighText 46 = .ok (.iload_n 3, 1) := by decide +kernel
theorem dX7_weighText_47 : decode cX7_weighText 47 = .ok (.aload_n 0, 1) := by decide +kernel
theorem dX7_weighText_48 : decode cX7_weighText 48 = .ok (.getfield 20, 3) := by decide +kernel
theorem dX7_weighText_51 : decode cX7_weighText 51 = .ok (.getfield 99, 3) := by decide +kernel
theorem dX7_weighText_54 : decode cX7_weighText 54 = .ok (.if_icmp .ge 30, 3) := by decide +kernel
theorem dX7_weighText_57 : decode cX7_weighText 57 = .ok (.aload_n 0, 1) := by decide +kernel
theorem dX7_weighText_58 : decode cX7_weighText 58 = .ok (.getfield 75, 3) := by decide +kernel
theorem dX7_weighText_61 : decode cX7_weighText 61 = .ok (.getfield 283, 3) := by decide +kernel
theorem dX7_weighText_64 : decode cX7_weighText 64 = .ok (.iload_n 1, 1) := by decide +kernel
theorem dX7_weighText_65 : decode cX7_weighText 65 = .ok (.bipush 8, 2) := by decide +kernel
theorem dX7_weighText_67 : decode cX7_weighText 67 = .ok (.imul, 1) := by decide +kernel
theorem dX7_weighText_68 : decode cX7_weighText 68 = .ok (.iload_n 3, 1) := by decide +kernel
theorem dX7_weighText_69 : decode cX7_weighText 69 = .ok (.iadd, 1) := by decide +kernel
theorem dX7_weighText_70 : decode cX7_weighText 70 = .ok (.aload_n 0, 1) := by decide +kernel
theorem dX7_weighText_71 : decode cX7_weighText 71 = .ok (.iload_n 1, 1) := by decide +kernel
theorem dX7_weighText_72 : decode cX7_weighText 72 = .ok (.iload_n 3, 1) := by decide +kernel
theorem dX7_weighText_73 : decode cX7_weighText 73 = .ok (.iload_n 2, 1) := by decide +kernel
theorem dX7_weighText_74 : decode cX7_weighText 74 = .ok (.invokevirtual 200, 3) := by decide +kernel
theorem dX7_weighText_77 : decode cX7_weighText 77 = .ok (.iastore, 1) := by decide +kernel
theorem dX7_weighText_78 : decode cX7_weighText 78 = .ok (.iinc 3 1, 3) := by decide +kernel
theorem dX7_weighText_81 : decode cX7_weighText 81 = .ok (.goto (-35), 3) := by decide +kernel
theorem dX7_weighText_84 : decode cX7_weighText 84 = .ok (.iinc 1 1, 3) := by decide +kernel
theorem dX7_weighText_87 : decode cX7_weighText 87 = .ok (.goto (-60), 3) := by decide +kernel
theorem dX7_weighText_90 : decode cX7_weighText 90 = .ok (.return_, 1) := by decide +kernel
theorem dX8_init_0 : decode cX8_init 0 = .ok (.aload_n 0, 1) := by decide +kernel
theorem dX8_init_1 : decode cX8_init 1 = .ok (.invokespecial 3, 3) := by decide +kernel
theorem dX8_init_4 : decode cX8_init 4 = .ok (.aload_n 0, 1) := by decide +kernel
theorem dX8_init_5 : decode cX8_init 5 = .ok (.sipush 600, 3) := by decide +kernel
theorem dX8_init_8 : decode cX8_init 8 = .ok (.newarray .byte, 2) := by decide +kernel
theorem dX8_init_10 : decode cX8_init 10 = .ok (.putfield 11, 3) := by decide +kernel
theorem dX8_init_13 : decode cX8_init 13 = .ok (.aload_n 0, 1) := by decide +kernel
theorem dX8_init_14 : decode cX8_init 14 = .ok (.bipush 60, 2) := by decide +kernel
theorem dX8_init_16 : decode cX8_init 16 = .ok (.newarray .int, 2) := by decide +kernel
theorem dX8_init_18 : decode cX8_init 18 = .ok (.putfield 15, 3) := by decide +kernel
theorem dX8_init_21 : decode cX8_init 21 = .ok (.aload_n 0, 1) := by decide +kernel
theorem dX8_init_22 : decode cX8_init 22 = .ok (.bipush 60, 2) := by decide +kernel
theorem dX8_init_24 : decode cX8_init 24 = .ok (.newarray .int, 2) := by decide +kernel
theorem dX8_init_26 : decode cX8_init 26 = .ok (.putfield 19, 3) := by decide +kernel
theorem dX8_init_29 : decode cX8_init 29 = .ok (.aload_n 0, 1) := by decide +kernel
theorem dX8_init_30 : decode cX8_init 30 = .ok (.bipush 60, 2) := by decide +kernel
theorem dX8_init_32 : decode cX8_init 32 = .ok (.newarray .boolean, 2) := by decide +kernel
theorem dX8_init_34 : decode cX8_init 34 = .ok (.putfield 22, 3) := by decide +kernel
theorem dX8_init_37 : decode cX8_init 37 = .ok (.aload_n 0, 1) := by decide +kernel
theorem dX8_init_38 : decode cX8_init 38 = .ok (.sipush 1440, 3) := by decide +kernel
theorem dX8_init_41 : decode cX8_init 41 = .ok (.newarray .byte, 2) := by decide +kernel
theorem dX8_init_43 : decode cX8_init 43 = .ok (.putfield 26, 3) := by decide +kernel
theorem dX8_init_46 : decode cX8_init 46 = .ok (.aload_n 0, 1) := by decide +kernel
theorem dX8_init_47 : decode cX8_init 47 = .ok (.sipush 720, 3) := by decide +kernel
theorem dX8_init_50 : decode cX8_init 50 = .ok (.newarray .byte, 2) := by decide +kernel
theorem dX8_init_52 : decode cX8_init 52 = .ok (.putfield 29, 3) := by decide +kernel
theorem dX8_init_55 : decode cX8_init 55 = .ok (.aload_n 0, 1) := by decide +kernel
theorem dX8_init_56 : decode cX8_init 56 = .ok (.bipush 60, 2) := by decide +kernel
theorem dX8_init_58 : decode cX8_init 58 = .ok (.newarray .int, 2) := by decide +kernel
theorem dX8_init_60 : decode cX8_init 60 = .ok (.putfield 32, 3) := by decide +kernel
theorem dX8_init_63 : decode cX8_init 63 = .ok (.aload_n 0, 1) := by decide +kernel
theorem dX8_init_64 : decode cX8_init 64 = .ok (.bipush 60, 2) := by decide +kernel
theorem dX8_init_66 : decode cX8_init 66 = .ok (.newarray .int, 2) := by decide +kernel
theorem dX8_init_68 : decode cX8_init 68 = .ok (.putfield 35, 3) := by decide +kernel
theorem dX8_init_71 : decode cX8_init 71 = .ok (.aload_n 0, 1) := by decide +kernel
theorem dX8_init_72 : decode cX8_init 72 = .ok (.bipush 30, 2) := by decide +kernel
theorem dX8_init_74 : decode cX8_init 74 = .ok (.newarray .int, 2) := by decide +kernel
theorem dX8_init_76 : decode cX8_init 76 = .ok (.putfield 38, 3) := by decide +kernel
theorem dX8_init_79 : decode cX8_init 79 = .ok (.aload_n 0, 1) := by decide +kernel
theorem dX8_init_80 : decode cX8_init 80 = .ok (.sipush 6272, 3) := by decide +kernel
theorem dX8_init_83 : decode cX8_init 83 = .ok (.newarray .int, 2) := by decide +kernel
theorem dX8_init_85 : decode cX8_init 85 = .ok (.putfield 41, 3) := by decide +kernel
theorem dX8_init_88 : decode cX8_init 88 = .ok (.aload_n 0, 1) := by decide +kernel
theorem dX8_init_89 : decode cX8_init 89 = .ok (.bipush 100, 2) := by decide +kernel
theorem dX8_init_91 : decode cX8_init 91 = .ok (.newarray .int, 2) := by decide +kernel
theorem dX8_init_93 : decode cX8_init 93 = .ok (.putfield 44, 3) := by decide +kernel
theorem dX8_init_96 : decode cX8_init 96 = .ok (.aload_n 0, 1) := by decide +kernel
theorem dX8_init_97 : decode cX8_init 97 = .ok (.bipush 100, 2) := by decide +kernel
theorem dX8_init_99 : decode cX8_init 99 = .ok (.newarray .int, 2) := by decide +kernel
theorem dX8_init_101 : decode cX8_init 101 = .ok (.putfield 47, 3) := by decide +kernel
theorem dX8_init_104 : decode cX8_init 104 = .ok (.aload_n 0, 1) := by decide +kernel
theorem dX8_init_105 : decode cX8_init 105 = .ok (.bipush 100, 2) := by decide +kernel
theorem dX8_init_107 : decode cX8_init 107 = .ok (.newarray .int, 2) := by decide +kernel
theorem dX8_init_109 : decode cX8_init 109 = .ok (.putfield 50, 3) := by decide +kernel
theorem dX8_init_112 : decode cX8_init 112 = .ok (.aload_n 0, 1) := by decide +kernel
theorem dX8_init_113 : decode cX8_init 113 = .ok (.ldc 53, 2) := by decide +kernel
theorem dX8_init_115 : decode cX8_init 115 = .ok (.newarray .short, 2) := by decide +kernel
theorem dX8_init_117 : decode cX8_init 117 = .ok (.putfield 54, 3) := by decide +kernel
theorem dX8_init_120 : decode cX8_init 120 = .ok (.aload_n 0, 1) := by decide +kernel
theorem dX8_init_121 : decode cX8_init 121 = .ok (.sipush 200, 3) := by decide +kernel
theorem dX8_init_124 : decode cX8_init 124 = .ok (.putfield 58, 3) := by decide +kernel
theorem dX8_init_127 : decode cX8_init 127 = .ok (.aload_n 0, 1) := by decide +kernel
theorem dX8_init_128 : decode cX8_init 128 = .ok (.bipush 100, 2) := by decide +kernel
theorem dX8_init_130 : decode cX8_init 130 = .ok (.putfield 62, 3) := by decide +kernel
theorem dX8_init_133 : decode cX8_init 133 = .ok (.aload_n 0, 1) := by decide +kernel
theorem dX8_init_134 : decode cX8_init 134 = .ok (.sipush 600, 3) := by decide +kernel
theorem dX8_init_137 : decode cX8_init 137 = .ok (.newarray .byte, 2) := by decide +kernel
theorem dX8_init_139 : decode cX8_init 139 = .ok (.putfield 65, 3) := by decide +kernel
theorem dX8_init_142 : decode cX8_init 142 = .ok (.aload_n 0, 1) := by decide +kernel
theorem dX8_init_143 : decode cX8_init 143 = .ok (.sipush 600, 3) := by decide +kernel
theorem dX8_init_146 : decode cX8_init 146 = .ok (.newarray .byte, 2) := by decide +kernel
theorem dX8_init_148 : decode cX8_init 148 = .ok (.putfield 68, 3) := by decide +kernel
theorem dX8_init_151 : decode cX8_init 151 = .ok (.aload_n 0, 1) := by decide +kernel
theorem dX8_init_152 : decode cX8_init 152 = .ok (.sipush 480, 3) := by decide +kernel
theorem dX8_init_155 : decode cX8_init 155 = .ok (.newarray .int, 2) := by decide +kernel
theorem dX8_init_157 : decode cX8_init 157 = .ok (.putfield 71, 3) := by decide +kernel
theorem dX8_init_160 : decode cX8_init 160 = .ok (.aload_n 0, 1) := by decide +kernel
theorem dX8_init_161 : decode cX8_init 161 = .ok (.bipush 8, 2) := by decide +kernel
theorem dX8_init_163 : decode cX8_init 163 = .ok (.newarray .int, 2) := by decide +kernel
theorem dX8_init_165 : decode cX8_init 165 = .ok (.putfield 74, 3) := by decide +kernel
theorem dX8_init_168 : decode cX8_init 168 = .ok (.aload_n 0, 1) := by decide +kernel
theorem dX8_init_169 : decode cX8_init 169 = .ok (.bipush 8, 2) := by decide +kernel
theorem dX8_init_171 : decode cX8_init 171 = .ok (.newarray .int, 2) := by decide +kernel
theorem dX8_init_173 : decode cX8_init 173 = .ok (.putfield 77, 3) := by decide +kernel
theorem dX8_init_176 : decode cX8_init 176 = .ok (.aload_n 0, 1) := by decide +kernel
theorem dX8_init_177 : decode cX8_init 177 = .ok (.bipush 8, 2) := by decide +kernel
theorem dX8_init_179 : decode cX8_init 179 = .ok (.bipush 60, 2) := by decide +kernel
theorem dX8_init_181 : decode cX8_init 181 = .ok (.multianewarray 80 2, 4) := by decide +kernel
theorem dX8_init_185 : decode cX8_init 185 = .ok (.putfield 82, 3) := by decide +kernel
theorem dX8_init_188 : decode cX8_init 188 = .ok (.aload_n 0, 1) := by decide +kernel
theorem dX8_init_189 : decode cX8_init 189 = .ok (.bipush 8, 2) := by decide +kernel
theorem dX8_init_191 : decode cX8_init 191 = .ok (.bipush 60, 2) := by decide +kernel
theorem dX8_init_193 : decode cX8_init 193 = .ok (.multianewarray 80 2, 4) := by decide +kernel
theorem dX8_init_197 : decode cX8_init 197 = .ok (.putfield 85, 3) := by decide +kernel
theorem dX8_init_200 : decode cX8_init 200 = .ok (.aload_n 0, 1) := by decide +kernel
theorem dX8_init_201 : decode cX8_init 201 = .ok (.bipush 60, 2) := by decide +kernel
theorem dX8_init_203 : decode cX8_init 203 = .ok (.newarray .byte, 2) := by decide +kernel
theorem dX8_init_205 : decode cX8_init 205 = .ok (.putfield 88, 3) := by decide +kernel
theorem dX8_init_208 : decode cX8_init 208 = .ok (.aload_n 0, 1) := by decide +kernel
theorem dX8_init_209 : decode cX8_init 209 = .ok (.iconst (-1), 1) := by decide +kernel
theorem dX8_init_210 : decode cX8_init 210 = .ok (.putfield 91, 3) := by decide +kernel
theorem dX8_init_213 : decode cX8_init 213 = .ok (.aload_n 0, 1) := by decide +kernel
theorem dX8_init_214 : decode cX8_init 214 = .ok (.bipush 60, 2) := by decide +kernel
theorem dX8_init_216 : decode cX8_init 216 = .ok (.newarray .int, 2) := by decide +kernel
theorem dX8_init_218 : decode cX8_init 218 = .ok (.putfield 94, 3) := by decide +kernel
theorem dX8_init_221 : decode cX8_init 221 = .ok (.return_, 1) := by decide +kernel
theorem dX8_refused_0 : decode cX8_refused 0 = .ok (.aload_n 0, 1) := by decide +kernel
theorem dX8_refused_1 : decode cX8_refused 1 = .ok (.iload_n 1, 1) := by decide +kernel
theorem dX8_refused_2 : decode cX8_refused 2 = .ok (.putfield 100, 3) := by decide +kernel
theorem dX8_refused_5 : decode cX8_refused 5 = .ok (.iconst (-1), 1) := by decide +kernel
theorem dX8_refused_6 : decode cX8_refused 6 = .ok (.ireturn, 1) := by decide +kernel
theorem dX8_done_0 : decode cX8_done 0 = .ok (.aload_n 0, 1) := by decide +kernel
theorem dX8_done_1 : decode cX8_done 1 = .ok (.iconst 0, 1) := by decide +kernel
theorem dX8_done_2 : decode cX8_done 2 = .ok (.putfield 100, 3) := by decide +kernel
theorem dX8_done_5 : decode cX8_done 5 = .ok (.iload_n 1, 1) := by decide +kernel
theorem dX8_done_6 : decode cX8_done 6 = .ok (.ireturn, 1) := by decide +kernel
theorem dX8_feed_0 : decode cX8_feed 0 = .ok (.aload_n 0, 1) := by decide +kernel
theorem dX8_feed_1 : decode cX8_feed 1 = .ok (.iconst 0, 1) := by decide +kernel
theorem dX8_feed_2 : decode cX8_feed 2 = .ok (.putfield 97, 3) := by decide +kernel
theorem dX8_feed_5 : decode cX8_feed 5 = .ok (.aload_n 0, 1) := by decide +kernel
theorem dX8_feed_6 : decode cX8_feed 6 = .ok (.getfield 103, 3) := by decide +kernel
theorem dX8_feed_9 : decode cX8_feed 9 = .ok (.bipush 20, 2) := by decide +kernel
theorem dX8_feed_11 : decode cX8_feed 11 = .ok (.iadd, 1) := by decide +kernel
theorem dX8_feed_12 : decode cX8_feed 12 = .ok (.sipush 600, 3) := by decide +kernel
theorem dX8_feed_15 : decode cX8_feed 15 = .ok (.if_icmp .le 5, 3) := by decide +kernel
theorem dX8_feed_18 : decode cX8_feed 18 = .ok (.iconst (-1), 1) := by decide +kernel
theorem dX8_feed_19 : decode cX8_feed 19 = .ok (.ireturn, 1) := by decide +kernel
theorem dX8_feed_20 : decode cX8_feed 20 = .ok (.iconst 0, 1) := by decide +kernel
theorem dX8_feed_21 : decode cX8_feed 21 = .ok (.istore 6, 2) := by decide +kernel
theorem dX8_feed_23 : decode cX8_feed 23 = .ok (.iload 6, 2) := by decide +kernel
theorem dX8_feed_25 : decode cX8_feed 25 = .ok (.bipush 20, 2) := by decide +kernel
theorem dX8_feed_27 : decode cX8_feed 27 = .ok (.if_icmp .ge 90, 3) := by decide +kernel
theorem dX8_feed_30 : decode cX8_feed 30 = .ok (.iload 6, 2) := by decide +kernel
theorem dX8_feed_32 : decode cX8_feed 32 = .ok (.iconst 4, 1) := by decide +kernel
theorem dX8_feed_33 : decode cX8_feed 33 = .ok (.if_icmp .ge 7, 3) := by decide +kernel
theorem dX8_feed_36 : decode cX8_feed 36 = .ok (.iload_n 1, 1) := by decide +kernel
theorem dX8_feed_37 : decode cX8_feed 37 = .ok (.goto 39, 3) := by decide +kernel
theorem dX8_feed_40 : decode cX8_feed 40 = .ok (.iload 6, 2) := by decide +kernel
theorem dX8_feed_42 : decode cX8_feed 42 = .ok (.bipush 8, 2) := by decide +kernel
theorem dX8_feed_44 : decode cX8_feed 44 = .ok (.if_icmp .ge 7, 3) := by decide +kernel
theorem dX8_feed_47 : decode cX8_feed 47 = .ok (.iload_n 2, 1) := by decide +kernel
theorem dX8_feed_48 : decode cX8_feed 48 = .ok (.goto 28, 3) := by decide +kernel
theorem dX8_feed_51 : decode cX8_feed 51 = .ok (.iload 6, 2) := by decide +kernel
theorem dX8_feed_53 : decode cX8_feed 53 = .ok (.bipush 12, 2) := by decide +kernel
theorem dX8_feed_55 : decode cX8_feed 55 = .ok (.if_icmp .ge 7, 3) := by decide +kernel
theorem dX8_feed_58 : decode cX8_feed 58 = .ok (.iload_n 3, 1) := by decide +kernel
theorem dX8_feed_59 : decode cX8_feed 59 = .ok (.goto 17, 3) := by decide +kernel
theorem dX8_feed_62 : decode cX8_feed 62 = .ok (.iload 6, 2) := by decide +kernel
theorem dX8_feed_64 : decode cX8_feed 64 = .ok (.bipush 16, 2) := by decide +kernel
theorem dX8_feed_66 : decode cX8_feed 66 = .ok (.if_icmp .ge 8, 3) := by decide +kernel
theorem dX8_feed_69 : decode cX8_feed 69 = .ok (.iload 4, 2) := by decide +kernel
theorem dX8_feed_71 : decode cX8_feed 71 = .ok (.goto 5, 3) := by decide +kernel
theorem dX8_feed_74 : decode cX8_feed 74 = .ok (.iload 5, 2) := by decide +kernel
theorem dX8_feed_76 : decode cX8_feed 76 = .ok (.istore 7, 2) := by decide +kernel
theorem dX8_feed_78 : decode cX8_feed 78 = .ok (.aload_n 0, 1) := by decide +kernel
theorem dX8_feed_79 : decode cX8_feed 79 = .ok (.getfield 11, 3) := by decide +kernel
theorem dX8_feed_82 : decode cX8_feed 82 = .ok (.aload_n 0, 1) := by decide +kernel
theorem dX8_feed_83 : decode cX8_feed 83 = .ok (.getfield 103, 3) := by decide +kernel
theorem dX8_feed_86 : decode cX8_feed 86 = .ok (.iload 7, 2) := by decide +kernel
theorem dX8_feed_88 : decode cX8_feed 88 = .ok (.bipush 24, 2) := by decide +kernel
theorem dX8_feed_90 : decode cX8_feed 90 = .ok (.bipush 8, 2) := by decide +kernel
theorem dX8_feed_92 : decode cX8_feed 92 = .ok (.iload 6, 2) := by decide +kernel
theorem dX8_feed_94 : decode cX8_feed 94 = .ok (.iconst 4, 1) := by decide +kernel
theorem dX8_feed_95 : decode cX8_feed 95 = .ok (.irem, 1) := by decide +kernel
theorem dX8_feed_96 : decode cX8_feed 96 = .ok (.imul, 1) := by decide +kernel
theorem dX8_feed_97 : decode cX8_feed 97 = .ok (.isub, 1) := by decide +kernel
theorem dX8_feed_98 : decode cX8_feed 98 = .ok (.ishr, 1) := by decide +kernel
theorem dX8_feed_99 : decode cX8_feed 99 = .ok (.i2b, 1) := by decide +kernel
theorem dX8_feed_100 : decode cX8_feed 100 = .ok (.bastore, 1) := by decide +kernel
theorem dX8_feed_101 : decode cX8_feed 101 = .ok (.aload_n 0, 1) := by decide +kernel
theorem dX8_feed_102 : decode cX8_feed 102 = .ok (.dup, 1) := by decide +kernel
theorem dX8_feed_103 : decode cX8_feed 103 = .ok (.getfield 103, 3) := by decide +kernel
theorem dX8_feed_106 : decode cX8_feed 106 = .ok (.iconst 1, 1) := by decide +kernel
theorem dX8_feed_107 : decode cX8_feed 107 = .ok (.iadd, 1) := by decide +kernel
theorem dX8_feed_108 : decode cX8_feed 108 = .ok (.putfield 103, 3) := by decide +kernel
theorem dX8_feed_111 : decode cX8_feed 111 = .ok (.iinc 6 1, 3) := by decide +kernel
theorem dX8_feed_114 : decode cX8_feed 114 = .ok (.goto (-91), 3) := by decide +kernel
theorem dX8_feed_117 : decode cX8_feed 117 = .ok (.aload_n 0, 1) := by decide +kernel
theorem dX8_feed_118 : decode cX8_feed 118 = .ok (.getfield 103, 3) := by decide +kernel
theorem dX8_feed_121 : decode cX8_feed 121 = .ok (.ireturn, 1) := by decide +kernel
theorem dX8_isTaped_0 : decode cX8_isTaped 0 = .ok (.iload_n 1, 1) := by decide +kernel
theorem dX8_isTaped_1 : decode cX8_isTaped 1 = .ok (.ifCond .lt 15, 3) := by decide +kernel
theorem dX8_isTaped_4 : decode cX8_isTaped 4 = .ok (.iload_n 1, 1) := by decide +kernel
theorem dX8_isTaped_5 : decode cX8_isTaped 5 = .ok (.aload_n 0, 1) := by decide +kernel
theorem dX8_isTaped_6 : decode cX8_isTaped 6 = .ok (.getfield 103, 3) := by decide +kernel
theorem dX8_isTaped_9 : decode cX8_isTaped 9 = .ok (.if_icmp .gt 7, 3) := by decide +kernel
theorem dX8_isTaped_12 : decode cX8_isTaped 12 = .ok (.iconst 1, 1) := by decide +kernel
theorem dX8_isTaped_13 : decode cX8_isTaped 13 = .ok (.goto 4, 3) := by decide +kernel
theorem dX8_isTaped_16 : decode cX8_isTaped 16 = .ok (.iconst 0, 1) := by decide +kernel
theorem dX8_isTaped_17 : decode cX8_isTaped 17 = .ok (.ireturn, 1) := by decide +kernel
theorem dX8_signOf_0 : decode cX8_signOf 0 = .ok (.iload_n 0, 1) := by decide +kernel
theorem dX8_signOf_1 : decode cX8_signOf 1 = .ok (.bipush 97, 2) := by decide +kernel
theorem dX8_signOf_3 : decode cX8_signOf 3 = .ok (.if_icmp .lt 14, 3) := by decide +kernel
theorem dX8_signOf_6 : decode cX8_signOf 6 = .ok (.iload_n 0, 1) := by decide +kernel
theorem dX8_signOf_7 : decode cX8_signOf 7 = .ok (.bipush 122, 2) := by decide +kernel
theorem dX8_signOf_9 : decode cX8_signOf 9 = .ok (.if_icmp .gt 8, 3) := by decide +kernel
theorem dX8_signOf_12 : decode cX8_signOf 12 = .ok (.iload_n 0, 1) := by decide +kernel
theorem dX8_signOf_13 : decode cX8_signOf 13 = .ok (.bipush 97, 2) := by decide +kernel
theorem dX8_signOf_15 : decode cX8_signOf 15 = .ok (.isub, 1) := by decide +kernel
theorem dX8_signOf_16 : decode cX8_signOf 16 = .ok (.ireturn, 1) := by decide +kernel
theorem dX8_signOf_17 : decode cX8_signOf 17 = .ok (.iload_n 0, 1) := by decide +kernel
theorem dX8_signOf_18 : decode cX8_signOf 18 = .ok (.bipush 65, 2) := by decide +kernel
theorem dX8_signOf_20 : decode cX8_signOf 20 = .ok (.if_icmp .lt 14, 3) := by decide +kernel
theorem dX8_signOf_23 : decode cX8_signOf 23 = .ok (.iload_n 0, 1) := by decide +kernel
theorem dX8_signOf_24 : decode cX8_signOf 24 = .ok (.bipush 90, 2) := by decide +kernel
theorem dX8_signOf_26 : decode cX8_signOf 26 = .ok (.if_icmp .gt 8, 3) := by decide +kernel
theorem dX8_signOf_29 : decode cX8_signOf 29 = .ok (.iload_n 0, 1) := by decide +kernel
theorem dX8_signOf_30 : decode cX8_signOf 30 = .ok (.bipush 65, 2) := by decide +kernel
theorem dX8_signOf_32 : decode cX8_signOf 32 = .ok (.isub, 1) := by decide +kernel
theorem dX8_signOf_33 : decode cX8_signOf 33 = .ok (.ireturn, 1) := by decide +kernel
theorem dX8_signOf_34 : decode cX8_signOf 34 = .ok (.iload_n 0, 1) := by decide +kernel
theorem dX8_signOf_35 : decode cX8_signOf 35 = .ok (.bipush 39, 2) := by decide +kernel
theorem dX8_signOf_37 : decode cX8_signOf 37 = .ok (.if_icmp .ne 8, 3) := by decide +kernel
theorem dX8_signOf_40 : decode cX8_signOf 40 = .ok (.bipush 26, 2) := by decide +kernel
theorem dX8_signOf_42 : decode cX8_signOf 42 = .ok (.goto 4, 3) := by decide +kernel
theorem dX8_signOf_45 : decode cX8_signOf 45 = .ok (.iconst (-1), 1) := by decide +kernel
theorem dX8_signOf_46 : decode cX8_signOf 46 = .ok (.ireturn, 1) := by decide +kernel
theorem dX8_isDigit_0 : decode cX8_isDigit 0 = .ok (.iload_n 0, 1) := by decide +kernel
theorem dX8_isDigit_1 : decode cX8_isDigit 1 = .ok (.bipush 48, 2) := by decide +kernel
theorem dX8_isDigit_3 : decode cX8_isDigit 3 = .ok (.if_icmp .lt 13, 3) := by decide +kernel
theorem dX8_isDigit_6 : decode cX8_isDigit 6 = .ok (.iload_n 0, 1) := by decide +kernel
theorem dX8_isDigit_7 : decode cX8_isDigit 7 = .ok (.bipush 57, 2) := by decide +kernel
theorem dX8_isDigit_9 : decode cX8_isDigit 9 = .ok (.if_icmp .gt 7, 3) := by decide +kernel
theorem dX8_isDigit_12 : decode cX8_isDigit 12 = .ok (.iconst 1, 1) := by decide +kernel
theorem dX8_isDigit_13 : decode cX8_isDigit 13 = .ok (.goto 4, 3) := by decide +kernel
theorem dX8_isDigit_16 : decode cX8_isDigit 16 = .ok (.iconst 0, 1) := by decide +kernel
theorem dX8_isDigit_17 : decode cX8_isDigit 17 = .ok (.ireturn, 1) := by decide +kernel
set_option maxRecDepth 100000 in
theorem ggX8_cut_X8_isDigit : GoodIn wsX8_cut wsX8_isDigit := goodIn_r _ [7] (by rfl) (by decide +kernel)
set_option maxRecDepth 20000 in
theorem gX8_cut_X8_isDigit : GoodIn wsX8_cut (va_wsS RX8 106 yX8_isDigit wsX8_isDigit) := goodIn_app (goodIn_of _ (by decide +kernel)) ggX8_cut_X8_isDigit
set_option maxRecDepth 100000 in
theorem ggX8_cut_X8_signOf : GoodIn wsX8_cut wsX8_signOf := goodIn_r _ [10] (by rfl) (by decide +kernel)
set_option maxRecDepth 20000 in
theorem gX8_cut_X8_signOf : GoodIn wsX8_cut (va_wsS RX8 110 yX8_signOf wsX8_signOf) := goodIn_app (goodIn_of _ (by decide +kernel)) ggX8_cut_X8_signOf
theorem dX8_cut_0 : decode cX8_cut 0 = .ok (.iconst 0, 1) := by decide +kernel
theorem dX8_cut_1 : decode cX8_cut 1 = .ok (.istore_n 3, 1) := by decide +kernel
theorem dX8_cut_2 : decode cX8_cut 2 = .ok (.iconst 0, 1) := by decide +kernel
theorem dX8_cut_3 : decode cX8_cut 3 = .ok (.istore 4, 2) := by decide +kernel
theorem dX8_cut_5 : decode cX8_cut 5 = .ok (.iload 4, 2) := by decide +kernel
theorem dX8_cut_7 : decode cX8_cut 7 = .ok (.iload_n 2, 1) := by decide +kernel
theorem dX8_cut_8 : decode cX8_cut 8 = .ok (.if_icmp .ge 132, 3) := by decide +kernel
theorem dX8_cut_11 : decode cX8_cut 11 = .ok (.aload_n 1, 1) := by decide +kernel
theorem dX8_cut_12 : decode cX8_cut 12 = .ok (.iload 4, 2) := by decide +kernel
theorem dX8_cut_14 : decode cX8_cut 14 = .ok (.baload, 1) := by decide +kernel
theorem dX8_cut_15 : decode cX8_cut 15 = .ok (.sipush 255, 3) := by decide +kernel
theorem dX8_cut_18 : decode cX8_cut 18 = .ok (.iand, 1) := by decide +kernel
theorem dX8_cut_19 : decode cX8_cut 19 = .ok (.istore 5, 2) := by decide +kernel
theorem dX8_cut_21 : decode cX8_cut 21 = .ok (.iload 5, 2) := by decide +kernel
theorem dX8_cut_23 : decode cX8_cut 23 = .ok (.invokestatic 106, 3) := by decide +kernel
theorem dX8_cut_26 : decode cX8_cut 26 = .ok (.istore 6, 2) := by decide +kernel
theorem dX8_cut_28 : decode cX8_cut 28 = .ok (.iload 6, 2) := by decide +kernel
theorem dX8_cut_30 : decode cX8_cut 30 = .ok (.ifCond .ne 18, 3) := by decide +kernel
theorem dX8_cut_33 : decode cX8_cut 33 = .ok (.iload 5, 2) := by decide +kernel
theorem dX8_cut_35 : decode cX8_cut 35 = .ok (.invokestatic 110, 3) := by decide +kernel
theorem dX8_cut_38 : decode cX8_cut 38 = .ok (.iconst (-1), 1) := by decide +kernel
theorem dX8_cut_39 : decode cX8_cut 39 = .ok (.if_icmp .ne 9, 3) := by decide +kernel
theorem dX8_cut_42 : decode cX8_cut 42 = .ok (.iinc 4 1, 3) := by decide +kernel
theorem dX8_cut_45 : decode cX8_cut 45 = .ok (.goto (-40), 3) := by decide +kernel
theorem dX8_cut_48 : decode cX8_cut 48 = .ok (.iload 4, 2) := by decide +kernel
theorem dX8_cut_50 : decode cX8_cut 50 = .ok (.istore 7, 2) := by decide +kernel
theorem dX8_cut_52 : decode cX8_cut 52 = .ok (.iload 4, 2) := by decide +kernel
theorem dX8_cut_54 : decode cX8_cut 54 = .ok (.iload_n 2, 1) := by decide +kernel
theorem dX8_cut_55 : decode cX8_cut 55 = .ok (.if_icmp .ge 46, 3) := by decide +kernel
theorem dX8_cut_58 : decode cX8_cut 58 = .ok (.iload 6, 2) := by decide +kernel
theorem dX8_cut_60 : decode cX8_cut 60 = .ok (.ifCond .eq 20, 3) := by decide +kernel
theorem dX8_cut_63 : decode cX8_cut 63 = .ok (.aload_n 1, 1) := by decide +kernel
theorem dX8_cut_64 : decode cX8_cut 64 = .ok (.iload 4, 2) := by decide +kernel
theorem dX8_cut_66 : decode cX8_cut 66 = .ok (.baload, 1) := by decide +kernel
theorem dX8_cut_67 : decode cX8_cut 67 = .ok (.sipush 255, 3) := by decide +kernel
theorem dX8_cut_70 : decode cX8_cut 70 = .ok (.iand, 1) := by decide +kernel
theorem dX8_cut_71 : decode cX8_cut 71 = .ok (.invokestatic 106, 3) := by decide +kernel
theorem dX8_cut_74 : decode cX8_cut 74 = .ok (.ifCond .eq 27, 3) := by decide +kernel
theorem dX8_cut_77 : decode cX8_cut 77 = .ok (.goto 18, 3) := by decide +kernel
theorem dX8_cut_80 : decode cX8_cut 80 = .ok (.aload_n 1, 1) := by decide +kernel
theorem dX8_cut_81 : decode cX8_cut 81 = .ok (.iload 4, 2) := by decide +kernel
theorem dX8_cut_83 : decode cX8_cut 83 = .ok (.baload, 1) := by decide +kernel
theorem dX8_cut_84 : decode cX8_cut 84 = .ok (.sipush 255, 3) := by decide +kernel
theorem dX8_cut_87 : decode cX8_cut 87 = .ok (.iand, 1) := by decide +kernel
theorem dX8_cut_88 : decode cX8_cut 88 = .ok (.invokestatic 110, 3) := by decide +kernel
theorem dX8_cut_91 : decode cX8_cut 91 = .ok (.iconst (-1), 1) := by decide +kernel
theorem dX8_cut_92 : decode cX8_cut 92 = .ok (.if_icmp .eq 9, 3) := by decide +kernel
theorem dX8_cut_95 : decode cX8_cut 95 = .ok (.iinc 4 1, 3) := by decide +kernel
theorem dX8_cut_98 : decode cX8_cut 98 = .ok (.goto (-46), 3) := by decide +kernel
theorem dX8_cut_101 : decode cX8_cut 101 = .ok (.iload_n 3, 1) := by decide +kernel
theorem dX8_cut_102 : decode cX8_cut 102 = .ok (.bipush 60, 2) := by decide +kernel
theorem dX8_cut_104 : decode cX8_cut 104 = .ok (.if_icmp .ge 30, 3) := by decide +kernel
theorem dX8_cut_107 : decode cX8_cut 107 = .ok (.aload_n 0, 1) := by decide +kernel
theorem dX8_cut_108 : decode cX8_cut 108 = .ok (.getfield 15, 3) := by decide +kernel
theorem dX8_cut_111 : decode cX8_cut 111 = .ok (.iload_n 3, 1) := by decide +kernel
theorem dX8_cut_112 : decode cX8_cut 112 = .ok (.iload 7, 2) := by decide +kernel
theorem dX8_cut_114 : decode cX8_cut 114 = .ok (.iastore, 1) := by decide +kernel
theorem dX8_cut_115 : decode cX8_cut 115 = .ok (.aload_n 0, 1) := by decide +kernel
theorem dX8_cut_116 : decode cX8_cut 116 = .ok (.getfield 19, 3) := by decide +kernel
theorem dX8_cut_119 : decode cX8_cut 119 = .ok (.iload_n 3, 1) := by decide +kernel
theorem dX8_cut_120 : decode cX8_cut 120 = .ok (.iload 4, 2) := by decide +kernel
theorem dX8_cut_122 : decode cX8_cut 122 = .ok (.iload 7, 2) := by decide +kernel
theorem dX8_cut_124 : decode cX8_cut 124 = .ok (.isub, 1) := by decide +kernel
theorem dX8_cut_125 : decode cX8_cut 125 = .ok (.iastore, 1) := by decide +kernel
theorem dX8_cut_126 : decode cX8_cut 126 = .ok (.aload_n 0, 1) := by decide +kernel
theorem dX8_cut_127 : decode cX8_cut 127 = .ok (.getfield 22, 3) := by decide +kernel
theorem dX8_cut_130 : decode cX8_cut 130 = .ok (.iload_n 3, 1) := by decide +kernel
theorem dX8_cut_131 : decode cX8_cut 131 = .ok (.iload 6, 2) := by decide +kernel
theorem dX8_cut_133 : decode cX8_cut 133 = .ok (.bastore, 1) := by decide +kernel
theorem dX8_cut_134 : decode cX8_cut 134 = .ok (.iinc 3 1, 3) := by decide +kernel
theorem dX8_cut_137 : decode cX8_cut 137 = .ok (.goto (-132), 3) := by decide +kernel
theorem dX8_cut_140 : decode cX8_cut 140 = .ok (.iload_n 3, 1) := by decide +kernel
theorem dX8_cut_141 : decode cX8_cut 141 = .ok (.ireturn, 1) := by decide +kernel
set_option maxRecDepth 100000 in
theorem ggX8_isSame_X8_signOf : GoodIn wsX8_isSame wsX8_signOf := goodIn_r _ [4] (by rfl) (by decide +kernel)
set_option maxRecDepth 20000 in
theorem gX8_isSame_X8_signOf : GoodIn wsX8_isSame (va_wsS RX8 110 yX8_signOf wsX8_signOf) := goodIn_app (goodIn_of _ (by decide +kernel)) ggX8_isSame_X8_signOf
theorem dX8_isSame_0 : decode cX8_isSame 0 = .ok (.iload_n 2, 1) := by decide +kernel
theorem dX8_isSame_1 : decode cX8_isSame 1 = .ok (.iload 5, 2) := by decide +kernel
theorem dX8_isSame_3 : decode cX8_isSame 3 = .ok (.if_icmp .ne 7, 3) := by decide +kernel
theorem dX8_isSame_6 : decode cX8_isSame 6 = .ok (.iconst 1, 1) := by decide +kernel
theorem dX8_isSame_7 : decode cX8_isSame 7 = .ok (.goto 4, 3) := by decide +kernel
theorem dX8_isSame_10 : decode cX8_isSame 10 = .ok (.iconst 0, 1) := by decide +kernel
theorem dX8_isSame_11 : decode cX8_isSame 11 = .ok (.istore 6, 2) := by decide +kernel
theorem dX8_isSame_13 : decode cX8_isSame 13 = .ok (.iconst 0, 1) := by decide +kernel
theorem dX8_isSame_14 : decode cX8_isSame 14 = .ok (.istore 7, 2) := by decide +kernel
theorem dX8_isSame_16 : decode cX8_isSame 16 = .ok (.iload 7, 2) := by decide +kernel
theorem dX8_isSame_18 : decode cX8_isSame 18 = .ok (.iload 5, 2) := by decide +kernel
theorem dX8_isSame_20 : decode cX8_isSame 20 = .ok (.if_icmp .ge 44, 3) := by decide +kernel
theorem dX8_isSame_23 : decode cX8_isSame 23 = .ok (.iload 6, 2) := by decide +kernel
theorem dX8_isSame_25 : decode cX8_isSame 25 = .ok (.ifCond .eq 39, 3) := by decide +kernel
theorem dX8_isSame_28 : decode cX8_isSame 28 = .ok (.aload_n 0, 1) := by decide +kernel
theorem dX8_isSame_29 : decode cX8_isSame 29 = .ok (.iload_n 1, 1) := by decide +kernel
theorem dX8_isSame_30 : decode cX8_isSame 30 = .ok (.iload 7, 2) := by decide +kernel
theorem dX8_isSame_32 : decode cX8_isSame 32 = .ok (.iadd, 1) := by decide +kernel
theorem dX8_isSame_33 : decode cX8_isSame 33 = .ok (.baload, 1) := by decide +kernel
theorem dX8_isSame_34 : decode cX8_isSame 34 = .ok (.sipush 255, 3) := by decide +kernel
theorem dX8_isSame_37 : decode cX8_isSame 37 = .ok (.iand, 1) := by decide +kernel
theorem dX8_isSame_38 : decode cX8_isSame 38 = .ok (.invokestatic 110, 3) := by decide +kernel
theorem dX8_isSame_41 : decode cX8_isSame 41 = .ok (.aload_n 3, 1) := by decide +kernel
theorem dX8_isSame_42 : decode cX8_isSame 42 = .ok (.iload 4, 2) := by decide +kernel
theorem dX8_isSame_44 : decode cX8_isSame 44 = .ok (.iload 7, 2) := by decide +kernel
theorem dX8_isSame_46 : decode cX8_isSame 46 = .ok (.iadd, 1) := by decide +kernel
theorem dX8_isSame_47 : decode cX8_isSame 47 = .ok (.baload, 1) := by decide +kernel
theorem dX8_isSame_48 : decode cX8_isSame 48 = .ok (.if_icmp .ne 7, 3) := by decide +kernel
theorem dX8_isSame_51 : decode cX8_isSame 51 = .ok (.iconst 1, 1) := by decide +kernel
theorem dX8_isSame_52 : decode cX8_isSame 52 = .ok (.goto 4, 3) := by decide +kernel
theorem dX8_isSame_55 : decode cX8_isSame 55 = .ok (.iconst 0, 1) := by decide +kernel
theorem dX8_isSame_56 : decode cX8_isSame 56 = .ok (.istore 6, 2) := by decide +kernel
theorem dX8_isSame_58 : decode cX8_isSame 58 = .ok (.iinc 7 1, 3) := by decide +kernel
theorem dX8_isSame_61 : decode cX8_isSame 61 = .ok (.goto (-45), 3) := by decide +kernel
theorem dX8_isSame_64 : decode cX8_isSame 64 = .ok (.iload 6, 2) := by decide +kernel
theorem dX8_isSame_66 : decode cX8_isSame 66 = .ok (.ireturn, 1) := by decide +kernel
theorem dX8_most_0 : decode cX8_most 0 = .ok (.iload_n 0, 1) := by decide +kernel
theorem dX8_most_1 : decode cX8_most 1 = .ok (.bipush 24, 2) := by decide +kernel
theorem dX8_most_3 : decode cX8_most 3 = .ok (.invokestatic 114, 3) := by decide +kernel
theorem dX8_most_6 : decode cX8_most 6 = .ok (.ireturn, 1) := by decide +kernel
set_option maxRecDepth 100000 in
theorem ggX8_nameOf_X8_most : GoodIn wsX8_nameOf wsX8_most := goodIn_r _ [7, 8, 9, 10, 11] (by rfl) (by decide +kernel)
set_option maxRecDepth 20000 in
theorem gX8_nameOf_X8_most : GoodIn wsX8_nameOf (va_wsS RX8 123 yX8_most wsX8_most) := goodIn_app (goodIn_of _ (by decide +kernel)) ggX8_nameOf_X8_most
set_option maxRecDepth 100000 in
theorem ggX8_nameOf_X8_isSame : GoodIn wsX8_nameOf wsX8_isSame := goodIn_r _ [14, 15, 16, 6, 17] (by rfl) (by decide +kernel)
set_option maxRecDepth 20000 in
theorem gX8_nameOf_X8_isSame : GoodIn wsX8_nameOf (va_wsS RX8 126 yX8_isSame wsX8_isSame) := goodIn_app (goodIn_of _ (by decide +kernel)) ggX8_nameOf_X8_isSame
theorem dX8_nameOf_0 : decode cX8_nameOf 0 = .ok (.iconst 0, 1) := by decide +kernel
theorem dX8_nameOf_1 : decode cX8_nameOf 1 = .ok (.istore 4, 2) := by decide +kernel
theorem dX8_nameOf_3 : decode cX8_nameOf 3 = .ok (.iload 4, 2) := by decide +kernel
theorem dX8_nameOf_5 : decode cX8_nameOf 5 = .ok (.aload_n 0, 1) := by decide +kernel
theorem dX8_nameOf_6 : decode cX8_nameOf 6 = .ok (.getfield 120, 3) := by decide +kernel
theorem dX8_nameOf_9 : decode cX8_nameOf 9 = .ok (.if_icmp .ge 37, 3) := by decide +kernel
theorem dX8_nameOf_12 : decode cX8_nameOf 12 = .ok (.aload_n 1, 1) := by decide +kernel
theorem dX8_nameOf_13 : decode cX8_nameOf 13 = .ok (.iload_n 2, 1) := by decide +kernel
theorem dX8_nameOf_14 : decode cX8_nameOf 14 = .ok (.iload_n 3, 1) := by decide +kernel
theorem dX8_nameOf_15 : decode cX8_nameOf 15 = .ok (.invokestatic 123, 3) := by decide +kernel
theorem dX8_nameOf_18 : decode cX8_nameOf 18 = .ok (.aload_n 0, 1) := by decide +kernel
theorem dX8_nameOf_19 : decode cX8_nameOf 19 = .ok (.getfield 29, 3) := by decide +kernel
theorem dX8_nameOf_22 : decode cX8_nameOf 22 = .ok (.bipush 24, 2) := by decide +kernel
theorem dX8_nameOf_24 : decode cX8_nameOf 24 = .ok (.iload 4, 2) := by decide +kernel
theorem dX8_nameOf_26 : decode cX8_nameOf 26 = .ok (.imul, 1) := by decide +kernel
theorem dX8_nameOf_27 : decode cX8_nameOf 27 = .ok (.aload_n 0, 1) := by decide +kernel
theorem dX8_nameOf_28 : decode cX8_nameOf 28 = .ok (.getfield 38, 3) := by decide +kernel
theorem dX8_nameOf_31 : decode cX8_nameOf 31 = .ok (.iload 4, 2) := by decide +kernel
theorem dX8_nameOf_33 : decode cX8_nameOf 33 = .ok (.iaload, 1) := by decide +kernel
theorem dX8_nameOf_34 : decode cX8_nameOf 34 = .ok (.invokestatic 126, 3) := by decide +kernel
theorem dX8_nameOf_37 : decode cX8_nameOf 37 = .ok (.ifCond .ne 9, 3) := by decide +kernel
theorem dX8_nameOf_40 : decode cX8_nameOf 40 = .ok (.iinc 4 1, 3) := by decide +kernel
theorem dX8_nameOf_43 : decode cX8_nameOf 43 = .ok (.goto (-40), 3) := by decide +kernel
theorem dX8_nameOf_46 : decode cX8_nameOf 46 = .ok (.iload 4, 2) := by decide +kernel
theorem dX8_nameOf_48 : decode cX8_nameOf 48 = .ok (.aload_n 0, 1) := by decide +kernel
theorem dX8_nameOf_49 : decode cX8_nameOf 49 = .ok (.getfield 120, 3) := by decide +kernel
theorem dX8_nameOf_52 : decode cX8_nameOf 52 = .ok (.if_icmp .ge 8, 3) := by decide +kernel
theorem dX8_nameOf_55 : decode cX8_nameOf 55 = .ok (.iload 4, 2) := by decide +kernel
theorem dX8_nameOf_57 : decode cX8_nameOf 57 = .ok (.goto 4, 3) := by decide +kernel
theorem dX8_nameOf_60 : decode cX8_nameOf 60 = .ok (.iconst (-1), 1) := by decide +kernel
theorem dX8_nameOf_61 : decode cX8_nameOf 61 = .ok (.ireturn, 1) := by decide +kernel
set_option maxRecDepth 100000 in
theorem ggX8_keywordAt_X8_most : GoodIn wsX8_keywordAt wsX8_most := goodIn_r _ [7, 8, 9, 10, 11] (by rfl) (by decide +kernel)
set_option maxRecDepth 20000 in
theorem gX8_keywordAt_X8_most : GoodIn wsX8_keywordAt (va_wsS RX8 123 yX8_most wsX8_most) := goodIn_app (goodIn_of _ (by decide +kernel)) ggX8_keywordAt_X8_most
set_option maxRecDepth 100000 in
theorem ggX8_keywordAt_X8_isSame : GoodIn wsX8_keywordAt wsX8_isSame := goodIn_r _ [14, 15, 16, 6, 17] (by rfl) (by decide +kernel)
set_option maxRecDepth 20000 in
theorem gX8_keywordAt_X8_isSame : GoodIn wsX8_keywordAt (va_wsS RX8 126 yX8_isSame wsX8_isSame) := goodIn_app (goodIn_of _ (by decide +kernel)) ggX8_keywordAt_X8_isSame
theorem dX8_keywordAt_0 : decode cX8_keywordAt 0 = .ok (.iconst 0, 1) := by decide +kernel
theorem dX8_keywordAt_1 : decode cX8_keywordAt 1 = .ok (.istore 4, 2) := by decide +kernel
theorem dX8_keywordAt_3 : decode cX8_keywordAt 3 = .ok (.iload 4, 2) := by decide +kernel
theorem dX8_keywordAt_5 : decode cX8_keywordAt 5 = .ok (.aload_n 0, 1) := by decide +kernel
theorem dX8_keywordAt_6 : decode cX8_keywordAt 6 = .ok (.getfield 130, 3) := by decide +kernel
theorem dX8_keywordAt_9 : decode cX8_keywordAt 9 = .ok (.if_icmp .ge 37, 3) := by decide +kernel
theorem dX8_keywordAt_12 : decode cX8_keywordAt 12 = .ok (.aload_n 1, 1) := by decide +kernel
theorem dX8_keywordAt_13 : decode cX8_keywordAt 13 = .ok (.iload_n 2, 1) := by decide +kernel
theorem dX8_keywordAt_14 : decode cX8_keywordAt 14 = .ok (.iload_n 3, 1) := by decide +kernel
theorem dX8_keywordAt_15 : decode cX8_keywordAt 15 = .ok (.invokestatic 123, 3) := by decide +kernel
theorem dX8_keywordAt_18 : decode cX8_keywordAt 18 = .ok (.aload_n 0, 1) := by decide +kernel
theorem dX8_keywordAt_19 : decode cX8_keywordAt 19 = .ok (.getfield 26, 3) := by decide +kernel
theorem dX8_keywordAt_22 : decode cX8_keywordAt 22 = .ok (.bipush 24, 2) := by decide +kernel
theorem dX8_keywordAt_24 : decode cX8_keywordAt 24 = .ok (.iload 4, 2) := by decide +kernel
theorem dX8_keywordAt_26 : decode cX8_keywordAt 26 = .ok (.imul, 1) := by decide +kernel
theorem dX8_keywordAt_27 : decode cX8_keywordAt 27 = .ok (.aload_n 0, 1) := by decide +kernel
theorem dX8_keywordAt_28 : decode cX8_keywordAt 28 = .ok (.getfield 32, 3) := by decide +kernel
theorem dX8_keywordAt_31 : decode cX8_keywordAt 31 = .ok (.iload 4, 2) := by decide +kernel
theorem dX8_keywordAt_33 : decode cX8_keywordAt 33 = .ok (.iaload, 1) := by decide +kernel
theorem dX8_keywordAt_34 : decode cX8_keywordAt 34 = .ok (.invokestatic 126, 3) := by decide +kernel
theorem dX8_keywordAt_37 : decode cX8_keywordAt 37 = .ok (.ifCond .ne 9, 3) := by decide +kernel
theorem dX8_keywordAt_40 : decode cX8_keywordAt 40 = .ok (.iinc 4 1, 3) := by decide +kernel
theorem dX8_keywordAt_43 : decode cX8_keywordAt 43 = .ok (.goto (-40), 3) := by decide +kernel
theorem dX8_keywordAt_46 : decode cX8_keywordAt 46 = .ok (.iload 4, 2) := by decide +kernel
theorem dX8_keywordAt_48 : decode cX8_keywordAt 48 = .ok (.aload_n 0, 1) := by decide +kernel
theorem dX8_keywordAt_49 : decode cX8_keywordAt 49 = .ok (.getfield 130, 3) := by decide +kernel
theorem dX8_keywordAt_52 : decode cX8_keywordAt 52 = .ok (.if_icmp .ge 8, 3) := by decide +kernel
theorem dX8_keywordAt_55 : decode cX8_keywordAt 55 = .ok (.iload 4, 2) := by decide +kernel
theorem dX8_keywordAt_57 : decode cX8_keywordAt 57 = .ok (.goto 4, 3) := by decide +kernel
theorem dX8_keywordAt_60 : decode cX8_keywordAt 60 = .ok (.iconst (-1), 1) := by decide +kernel
theorem dX8_keywordAt_61 : decode cX8_keywordAt 61 = .ok (.ireturn, 1) := by decide +kernel
theorem dX8_isTongue_0 : decode cX8_isTongue 0 = .ok (.iload_n 1, 1) := by decide +kernel
theorem dX8_isTongue_1 : decode cX8_isTongue 1 = .ok (.ifCond .lt 15, 3) := by decide +kernel
theorem dX8_isTongue_4 : decode cX8_isTongue 4 = .ok (.iload_n 1, 1) := by decide +kernel
theorem dX8_isTongue_5 : decode cX8_isTongue 5 = .ok (.aload_n 0, 1) := by decide +kernel
theorem dX8_isTongue_6 : decode cX8_isTongue 6 = .ok (.getfield 133, 3) := by decide +kernel
theorem dX8_isTongue_9 : decode cX8_isTongue 9 = .ok (.if_icmp .ge 7, 3) := by decide +kernel
theorem dX8_isTongue_12 : decode cX8_isTongue 12 = .ok (.iconst 1, 1) := by decide +kernel
theorem dX8_isTongue_13 : decode cX8_isTongue 13 = .ok (.goto 4, 3) := by decide +kernel
theorem dX8_isTongue_16 : decode cX8_isTongue 16 = .ok (.iconst 0, 1) := by decide +kernel
theorem dX8_isTongue_17 : decode cX8_isTongue 17 = .ok (.ireturn, 1) := by decide +kernel
set_option maxRecDepth 100000 in
theorem ggX8_tongue_X8_refused : GoodIn wsX8_tongue wsX8_refused := goodIn_r _ [7, 8, 13, 14, 15, 16, 17, 18, 19, 20, 21, 22, 23, 24, 25, 26, 27, 28, 29, 30, 31, 32, 33, 34, 35, 36, 37, 38, 39, 40, 41, 42, 43, 44, 45, 46, 47, 48, 49, 50] (by rfl) (by decide +kernel)
set_option maxRecDepth 20000 in
theorem gX8_tongue_X8_refused : GoodIn wsX8_tongue (wsV RX8 136 RX8 yX8_refused wsX8_refused) := goodIn_app (goodIn_of _ (by decide +kernel)) ggX8_tongue_X8_refused
set_option maxRecDepth 100000 in
theorem ggX8_tongue_X8_done : GoodIn wsX8_tongue wsX8_done := goodIn_r _ [12, 8, 13, 14, 15, 16, 17, 18, 19, 20, 21, 22, 23, 24, 25, 26, 27, 28, 29, 30, 31, 32, 33, 34, 35, 36, 37, 38, 39, 40, 41, 42, 43, 44, 45, 46, 47, 48, 49, 50] (by rfl) (by decide +kernel)
set_option maxRecDepth 20000 in
theorem gX8_tongue_X8_done : GoodIn wsX8_tongue (wsV RX8 139 RX8 yX8_done wsX8_done) := goodIn_app (goodIn_of _ (by decide +kernel)) ggX8_tongue_X8_done
theorem dX8_tongue_0 : decode cX8_tongue 0 = .ok (.aload_n 0, 1) := by decide +kernel
theorem dX8_tongue_1 : decode cX8_tongue 1 = .ok (.iconst 0, 1) := by decide +kernel
theorem dX8_tongue_2 : decode cX8_tongue 2 = .ok (.putfield 97, 3) := by decide +kernel
theorem dX8_tongue_5 : decode cX8_tongue 5 = .ok (.aload_n 0, 1) := by decide +kernel
theorem dX8_tongue_6 : decode cX8_tongue 6 = .ok (.getfield 133, 3) := by decide +kernel
theorem dX8_tongue_9 : decode cX8_tongue 9 = .ok (.bipush 8, 2) := by decide +kernel
theorem dX8_tongue_11 : decode cX8_tongue 11 = .ok (.if_icmp .ne 9, 3) := by decide +kernel
theorem dX8_tongue_14 : decode cX8_tongue 14 = .ok (.aload_n 0, 1) := by decide +kernel
theorem dX8_tongue_15 : decode cX8_tongue 15 = .ok (.iconst 3, 1) := by decide +kernel
theorem dX8_tongue_16 : decode cX8_tongue 16 = .ok (.invokevirtual 136, 3) := by decide +kernel
theorem dX8_tongue_19 : decode cX8_tongue 19 = .ok (.ireturn, 1) := by decide +kernel
