theorem dX8_part_85 : decode cX8_part 85 = .ok (.aload_n 0, 1) := by decide +kernel
theorem dX8_part_86 : decode cX8_part 86 = .ok (.getfield 74, 3) := by decide +kernel
theorem dX8_part_89 : decode cX8_part 89 = .ok (.iload_n 1, 1) := by decide +kernel
theorem dX8_part_90 : decode cX8_part 90 = .ok (.iaload, 1) := by decide +kernel
theorem dX8_part_91 : decode cX8_part 91 = .ok (.invokevirtual 139, 3) := by decide +kernel
theorem dX8_part_94 : decode cX8_part 94 = .ok (.ireturn, 1) := by decide +kernel
theorem dX8_told_0 : decode cX8_told 0 = .ok (.aload_n 0, 1) := by decide +kernel
theorem dX8_told_1 : decode cX8_told 1 = .ok (.iconst 0, 1) := by decide +kernel
theorem dX8_told_2 : decode cX8_told 2 = .ok (.putfield 97, 3) := by decide +kernel
theorem dX8_told_5 : decode cX8_told 5 = .ok (.iload_n 1, 1) := by decide +kernel
theorem dX8_told_6 : decode cX8_told 6 = .ok (.ifCond .lt 20, 3) := by decide +kernel
theorem dX8_told_9 : decode cX8_told 9 = .ok (.iload_n 1, 1) := by decide +kernel
theorem dX8_told_10 : decode cX8_told 10 = .ok (.aload_n 0, 1) := by decide +kernel
theorem dX8_told_11 : decode cX8_told 11 = .ok (.getfield 91, 3) := by decide +kernel
theorem dX8_told_14 : decode cX8_told 14 = .ok (.if_icmp .ge 12, 3) := by decide +kernel
theorem dX8_told_17 : decode cX8_told 17 = .ok (.aload_n 0, 1) := by decide +kernel
theorem dX8_told_18 : decode cX8_told 18 = .ok (.getfield 88, 3) := by decide +kernel
theorem dX8_told_21 : decode cX8_told 21 = .ok (.iload_n 1, 1) := by decide +kernel
theorem dX8_told_22 : decode cX8_told 22 = .ok (.baload, 1) := by decide +kernel
theorem dX8_told_23 : decode cX8_told 23 = .ok (.goto 4, 3) := by decide +kernel
theorem dX8_told_26 : decode cX8_told 26 = .ok (.iconst (-1), 1) := by decide +kernel
theorem dX8_told_27 : decode cX8_told 27 = .ok (.ireturn, 1) := by decide +kernel
theorem dX8_spanAt_0 : decode cX8_spanAt 0 = .ok (.iconst 0, 1) := by decide +kernel
theorem dX8_spanAt_1 : decode cX8_spanAt 1 = .ok (.istore_n 2, 1) := by decide +kernel
theorem dX8_spanAt_2 : decode cX8_spanAt 2 = .ok (.iconst 0, 1) := by decide +kernel
theorem dX8_spanAt_3 : decode cX8_spanAt 3 = .ok (.istore_n 3, 1) := by decide +kernel
theorem dX8_spanAt_4 : decode cX8_spanAt 4 = .ok (.iload_n 3, 1) := by decide +kernel
theorem dX8_spanAt_5 : decode cX8_spanAt 5 = .ok (.aload_n 0, 1) := by decide +kernel
theorem dX8_spanAt_6 : decode cX8_spanAt 6 = .ok (.getfield 91, 3) := by decide +kernel
theorem dX8_spanAt_9 : decode cX8_spanAt 9 = .ok (.if_icmp .ge 43, 3) := by decide +kernel
theorem dX8_spanAt_12 : decode cX8_spanAt 12 = .ok (.iload_n 3, 1) := by decide +kernel
theorem dX8_spanAt_13 : decode cX8_spanAt 13 = .ok (.ifCond .le 23, 3) := by decide +kernel
theorem dX8_spanAt_16 : decode cX8_spanAt 16 = .ok (.aload_n 0, 1) := by decide +kernel
theorem dX8_spanAt_17 : decode cX8_spanAt 17 = .ok (.getfield 88, 3) := by decide +kernel
theorem dX8_spanAt_20 : decode cX8_spanAt 20 = .ok (.iload_n 3, 1) := by decide +kernel
theorem dX8_spanAt_21 : decode cX8_spanAt 21 = .ok (.baload, 1) := by decide +kernel
theorem dX8_spanAt_22 : decode cX8_spanAt 22 = .ok (.aload_n 0, 1) := by decide +kernel
theorem dX8_spanAt_23 : decode cX8_spanAt 23 = .ok (.getfield 88, 3) := by decide +kernel
theorem dX8_spanAt_26 : decode cX8_spanAt 26 = .ok (.iload_n 3, 1) := by decide +kernel
theorem dX8_spanAt_27 : decode cX8_spanAt 27 = .ok (.iconst 1, 1) := by decide +kernel
theorem dX8_spanAt_28 : decode cX8_spanAt 28 = .ok (.isub, 1) := by decide +kernel
theorem dX8_spanAt_29 : decode cX8_spanAt 29 = .ok (.baload, 1) := by decide +kernel
theorem dX8_spanAt_30 : decode cX8_spanAt 30 = .ok (.if_icmp .ne 6, 3) := by decide +kernel
theorem dX8_spanAt_33 : decode cX8_spanAt 33 = .ok (.goto 13, 3) := by decide +kernel
theorem dX8_spanAt_36 : decode cX8_spanAt 36 = .ok (.iload_n 2, 1) := by decide +kernel
theorem dX8_spanAt_37 : decode cX8_spanAt 37 = .ok (.iload_n 1, 1) := by decide +kernel
theorem dX8_spanAt_38 : decode cX8_spanAt 38 = .ok (.if_icmp .ne 5, 3) := by decide +kernel
theorem dX8_spanAt_41 : decode cX8_spanAt 41 = .ok (.iload_n 3, 1) := by decide +kernel
theorem dX8_spanAt_42 : decode cX8_spanAt 42 = .ok (.ireturn, 1) := by decide +kernel
theorem dX8_spanAt_43 : decode cX8_spanAt 43 = .ok (.iinc 2 1, 3) := by decide +kernel
theorem dX8_spanAt_46 : decode cX8_spanAt 46 = .ok (.iinc 3 1, 3) := by decide +kernel
theorem dX8_spanAt_49 : decode cX8_spanAt 49 = .ok (.goto (-45), 3) := by decide +kernel
theorem dX8_spanAt_52 : decode cX8_spanAt 52 = .ok (.iload_n 3, 1) := by decide +kernel
theorem dX8_spanAt_53 : decode cX8_spanAt 53 = .ok (.ireturn, 1) := by decide +kernel
set_option maxRecDepth 100000 in
theorem ggX8_spans_X8_spanAt : GoodIn wsX8_spans wsX8_spanAt := goodIn_r _ [7, 2, 8, 9, 10, 11, 12, 13, 14, 15, 16, 17, 18, 19, 20, 21, 22, 23, 24, 25, 26, 27, 28, 29, 30, 31, 32, 33, 34, 35, 36, 37, 38, 39, 40, 41, 42, 43, 44, 45, 46] (by rfl) (by decide +kernel)
set_option maxRecDepth 20000 in
theorem gX8_spans_X8_spanAt : GoodIn wsX8_spans (wsV RX8 210 RX8 yX8_spanAt wsX8_spanAt) := goodIn_app (goodIn_of _ (by decide +kernel)) ggX8_spans_X8_spanAt
theorem dX8_spans_0 : decode cX8_spans 0 = .ok (.aload_n 0, 1) := by decide +kernel
theorem dX8_spans_1 : decode cX8_spans 1 = .ok (.iconst 0, 1) := by decide +kernel
theorem dX8_spans_2 : decode cX8_spans 2 = .ok (.putfield 97, 3) := by decide +kernel
theorem dX8_spans_5 : decode cX8_spans 5 = .ok (.aload_n 0, 1) := by decide +kernel
theorem dX8_spans_6 : decode cX8_spans 6 = .ok (.getfield 91, 3) := by decide +kernel
theorem dX8_spans_9 : decode cX8_spans 9 = .ok (.iconst (-1), 1) := by decide +kernel
theorem dX8_spans_10 : decode cX8_spans 10 = .ok (.if_icmp .ne 5, 3) := by decide +kernel
theorem dX8_spans_13 : decode cX8_spans 13 = .ok (.iconst (-1), 1) := by decide +kernel
theorem dX8_spans_14 : decode cX8_spans 14 = .ok (.ireturn, 1) := by decide +kernel
theorem dX8_spans_15 : decode cX8_spans 15 = .ok (.iconst 0, 1) := by decide +kernel
theorem dX8_spans_16 : decode cX8_spans 16 = .ok (.istore_n 1, 1) := by decide +kernel
theorem dX8_spans_17 : decode cX8_spans 17 = .ok (.aload_n 0, 1) := by decide +kernel
theorem dX8_spans_18 : decode cX8_spans 18 = .ok (.iload_n 1, 1) := by decide +kernel
theorem dX8_spans_19 : decode cX8_spans 19 = .ok (.invokevirtual 210, 3) := by decide +kernel
theorem dX8_spans_22 : decode cX8_spans 22 = .ok (.aload_n 0, 1) := by decide +kernel
theorem dX8_spans_23 : decode cX8_spans 23 = .ok (.getfield 91, 3) := by decide +kernel
theorem dX8_spans_26 : decode cX8_spans 26 = .ok (.if_icmp .ge 9, 3) := by decide +kernel
theorem dX8_spans_29 : decode cX8_spans 29 = .ok (.iinc 1 1, 3) := by decide +kernel
theorem dX8_spans_32 : decode cX8_spans 32 = .ok (.goto (-15), 3) := by decide +kernel
theorem dX8_spans_35 : decode cX8_spans 35 = .ok (.iload_n 1, 1) := by decide +kernel
theorem dX8_spans_36 : decode cX8_spans 36 = .ok (.ireturn, 1) := by decide +kernel
set_option maxRecDepth 100000 in
theorem ggX8_span_X8_spanAt : GoodIn wsX8_span wsX8_spanAt := goodIn_r _ [8, 2, 3, 9, 10, 11, 12, 13, 14, 15, 16, 17, 18, 19, 20, 21, 22, 23, 24, 25, 26, 27, 28, 29, 30, 31, 32, 33, 34, 35, 36, 37, 38, 39, 40, 41, 42, 43, 44, 45, 46] (by rfl) (by decide +kernel)
set_option maxRecDepth 20000 in
theorem gX8_span_X8_spanAt : GoodIn wsX8_span (wsV RX8 210 RX8 yX8_spanAt wsX8_spanAt) := goodIn_app (goodIn_of _ (by decide +kernel)) ggX8_span_X8_spanAt
theorem dX8_span_0 : decode cX8_span 0 = .ok (.aload_n 0, 1) := by decide +kernel
theorem dX8_span_1 : decode cX8_span 1 = .ok (.iconst 0, 1) := by decide +kernel
theorem dX8_span_2 : decode cX8_span 2 = .ok (.putfield 97, 3) := by decide +kernel
theorem dX8_span_5 : decode cX8_span 5 = .ok (.iload_n 1, 1) := by decide +kernel
theorem dX8_span_6 : decode cX8_span 6 = .ok (.ifCond .lt 23, 3) := by decide +kernel
theorem dX8_span_9 : decode cX8_span 9 = .ok (.aload_n 0, 1) := by decide +kernel
theorem dX8_span_10 : decode cX8_span 10 = .ok (.getfield 91, 3) := by decide +kernel
theorem dX8_span_13 : decode cX8_span 13 = .ok (.iconst (-1), 1) := by decide +kernel
theorem dX8_span_14 : decode cX8_span 14 = .ok (.if_icmp .eq 15, 3) := by decide +kernel
theorem dX8_span_17 : decode cX8_span 17 = .ok (.aload_n 0, 1) := by decide +kernel
theorem dX8_span_18 : decode cX8_span 18 = .ok (.iload_n 1, 1) := by decide +kernel
theorem dX8_span_19 : decode cX8_span 19 = .ok (.invokevirtual 210, 3) := by decide +kernel
theorem dX8_span_22 : decode cX8_span 22 = .ok (.aload_n 0, 1) := by decide +kernel
theorem dX8_span_23 : decode cX8_span 23 = .ok (.getfield 91, 3) := by decide +kernel
theorem dX8_span_26 : decode cX8_span 26 = .ok (.if_icmp .lt 5, 3) := by decide +kernel
theorem dX8_span_29 : decode cX8_span 29 = .ok (.iconst (-1), 1) := by decide +kernel
theorem dX8_span_30 : decode cX8_span 30 = .ok (.ireturn, 1) := by decide +kernel
theorem dX8_span_31 : decode cX8_span 31 = .ok (.aload_n 0, 1) := by decide +kernel
theorem dX8_span_32 : decode cX8_span 32 = .ok (.iload_n 1, 1) := by decide +kernel
theorem dX8_span_33 : decode cX8_span 33 = .ok (.invokevirtual 210, 3) := by decide +kernel
theorem dX8_span_36 : decode cX8_span 36 = .ok (.istore_n 3, 1) := by decide +kernel
theorem dX8_span_37 : decode cX8_span 37 = .ok (.iload_n 2, 1) := by decide +kernel
theorem dX8_span_38 : decode cX8_span 38 = .ok (.ifCond .ne 7, 3) := by decide +kernel
theorem dX8_span_41 : decode cX8_span 41 = .ok (.iload_n 3, 1) := by decide +kernel
theorem dX8_span_42 : decode cX8_span 42 = .ok (.goto 35, 3) := by decide +kernel
theorem dX8_span_45 : decode cX8_span 45 = .ok (.iload_n 2, 1) := by decide +kernel
theorem dX8_span_46 : decode cX8_span 46 = .ok (.iconst 1, 1) := by decide +kernel
theorem dX8_span_47 : decode cX8_span 47 = .ok (.if_icmp .ne 15, 3) := by decide +kernel
theorem dX8_span_50 : decode cX8_span 50 = .ok (.aload_n 0, 1) := by decide +kernel
theorem dX8_span_51 : decode cX8_span 51 = .ok (.iload_n 1, 1) := by decide +kernel
theorem dX8_span_52 : decode cX8_span 52 = .ok (.iconst 1, 1) := by decide +kernel
theorem dX8_span_53 : decode cX8_span 53 = .ok (.iadd, 1) := by decide +kernel
theorem dX8_span_54 : decode cX8_span 54 = .ok (.invokevirtual 210, 3) := by decide +kernel
theorem dX8_span_57 : decode cX8_span 57 = .ok (.iload_n 3, 1) := by decide +kernel
theorem dX8_span_58 : decode cX8_span 58 = .ok (.isub, 1) := by decide +kernel
theorem dX8_span_59 : decode cX8_span 59 = .ok (.goto 18, 3) := by decide +kernel
theorem dX8_span_62 : decode cX8_span 62 = .ok (.iload_n 2, 1) := by decide +kernel
theorem dX8_span_63 : decode cX8_span 63 = .ok (.iconst 2, 1) := by decide +kernel
theorem dX8_span_64 : decode cX8_span 64 = .ok (.if_icmp .ne 12, 3) := by decide +kernel
theorem dX8_span_67 : decode cX8_span 67 = .ok (.aload_n 0, 1) := by decide +kernel
theorem dX8_span_68 : decode cX8_span 68 = .ok (.getfield 88, 3) := by decide +kernel
theorem dX8_span_71 : decode cX8_span 71 = .ok (.iload_n 3, 1) := by decide +kernel
theorem dX8_span_72 : decode cX8_span 72 = .ok (.baload, 1) := by decide +kernel
theorem dX8_span_73 : decode cX8_span 73 = .ok (.goto 4, 3) := by decide +kernel
theorem dX8_span_76 : decode cX8_span 76 = .ok (.iconst (-1), 1) := by decide +kernel
theorem dX8_span_77 : decode cX8_span 77 = .ok (.ireturn, 1) := by decide +kernel
set_option maxRecDepth 100000 in
theorem ggX8_sure_X8_isAsked : GoodIn wsX8_sure wsX8_isAsked := goodIn_r _ [10, 11, 12, 93, 94, 95, 96, 97, 98, 99, 100, 101, 102, 103, 104, 105, 106, 107, 108, 109, 110, 111, 112, 113, 114, 115, 116, 117, 118, 119, 120, 121, 122, 123, 124, 125, 126, 127, 128, 129, 130] (by rfl) (by decide +kernel)
set_option maxRecDepth 20000 in
theorem gX8_sure_X8_isAsked : GoodIn wsX8_sure (wsV RX8 196 RX8 yX8_isAsked wsX8_isAsked) := goodIn_app (goodIn_of _ (by decide +kernel)) ggX8_sure_X8_isAsked
set_option maxRecDepth 100000 in
theorem ggX8_sure_X8_refused : GoodIn wsX8_sure wsX8_refused := goodIn_r _ [16, 17, 93, 94, 95, 96, 97, 98, 99, 100, 101, 102, 103, 104, 105, 106, 107, 108, 109, 110, 111, 112, 113, 114, 115, 116, 117, 118, 119, 120, 121, 122, 123, 124, 125, 126, 127, 128, 129, 130] (by rfl) (by decide +kernel)
set_option maxRecDepth 20000 in
theorem gX8_sure_X8_refused : GoodIn wsX8_sure (wsV RX8 136 RX8 yX8_refused wsX8_refused) := goodIn_app (goodIn_of _ (by decide +kernel)) ggX8_sure_X8_refused
set_option maxRecDepth 100000 in
theorem ggX8_sure_X8_costs : GoodIn wsX8_sure wsX8_costs := goodIn_r _ [21, 2, 12, 22, 23, 24, 25, 9, 26, 27, 28, 29, 30, 31, 32, 33, 34, 35, 36, 37, 38, 39, 40, 41, 42, 43, 44, 45, 46, 47, 48, 49, 50, 51, 52, 53, 54, 55, 56, 57, 58, 59, 60, 61, 62, 63, 64, 65, 66, 67, 68, 69, 70, 71, 72, 73, 74, 93, 94, 95, 96, 97, 98, 99, 100, 101, 102, 103, 104, 105, 106, 107, 108, 109, 110, 111, 112, 113, 114, 115, 116, 117, 118, 119, 120, 121, 122, 123, 124, 125, 126, 127, 128, 129, 130] (by rfl) (by decide +kernel)
set_option maxRecDepth 20000 in
theorem gX8_sure_X8_costs : GoodIn wsX8_sure (wsV RX8 200 RX8 yX8_costs wsX8_costs) := goodIn_app (goodIn_of _ (by decide +kernel)) ggX8_sure_X8_costs
set_option maxRecDepth 100000 in
theorem ggX8_sure_X8_parts : GoodIn wsX8_sure wsX8_parts := goodIn_r _ [78, 2, 12, 5, 22, 79, 3, 80, 4, 81, 82, 83, 9, 84, 93, 94, 95, 96, 97, 98, 99, 100, 101, 102, 103, 104, 105, 106, 107, 108, 109, 110, 111, 112, 113, 114, 115, 116, 117, 118, 119, 120, 121, 122, 123, 124, 125, 126, 127, 128, 129, 130] (by rfl) (by decide +kernel)
set_option maxRecDepth 20000 in
theorem gX8_sure_X8_parts : GoodIn wsX8_sure (wsV RX8 203 RX8 yX8_parts wsX8_parts) := goodIn_app (goodIn_of _ (by decide +kernel)) ggX8_sure_X8_parts
set_option maxRecDepth 100000 in
theorem ggX8_sure_X8_best : GoodIn wsX8_sure wsX8_best := goodIn_r _ [88, 12, 3, 5, 4, 2, 82, 83, 9, 84, 93, 94, 95, 96, 97, 98, 99, 100, 101, 102, 103, 104, 105, 106, 107, 108, 109, 110, 111, 112, 113, 114, 115, 116, 117, 118, 119, 120, 121, 122, 123, 124, 125, 126, 127, 128, 129, 130] (by rfl) (by decide +kernel)
set_option maxRecDepth 20000 in
theorem gX8_sure_X8_best : GoodIn wsX8_sure (wsV RX8 206 RX8 yX8_best wsX8_best) := goodIn_app (goodIn_of _ (by decide +kernel)) ggX8_sure_X8_best
set_option maxRecDepth 100000 in
theorem ggX8_sure_X8_done : GoodIn wsX8_sure wsX8_done := goodIn_r _ [92, 17, 93, 94, 95, 96, 97, 98, 99, 100, 101, 102, 103, 104, 105, 106, 107, 108, 109, 110, 111, 112, 113, 114, 115, 116, 117, 118, 119, 120, 121, 122, 123, 124, 125, 126, 127, 128, 129, 130] (by rfl) (by decide +kernel)
set_option maxRecDepth 20000 in
theorem gX8_sure_X8_done : GoodIn wsX8_sure (wsV RX8 139 RX8 yX8_done wsX8_done) := goodIn_app (goodIn_of _ (by decide +kernel)) ggX8_sure_X8_done
theorem dX8_sure_0 : decode cX8_sure 0 = .ok (.aload_n 0, 1) := by decide +kernel
theorem dX8_sure_1 : decode cX8_sure 1 = .ok (.iconst 0, 1) := by decide +kernel
theorem dX8_sure_2 : decode cX8_sure 2 = .ok (.putfield 97, 3) := by decide +kernel
theorem dX8_sure_5 : decode cX8_sure 5 = .ok (.aload_n 0, 1) := by decide +kernel
theorem dX8_sure_6 : decode cX8_sure 6 = .ok (.invokevirtual 196, 3) := by decide +kernel
theorem dX8_sure_9 : decode cX8_sure 9 = .ok (.ifCond .ne 9, 3) := by decide +kernel
theorem dX8_sure_12 : decode cX8_sure 12 = .ok (.aload_n 0, 1) := by decide +kernel
theorem dX8_sure_13 : decode cX8_sure 13 = .ok (.iconst 5, 1) := by decide +kernel
theorem dX8_sure_14 : decode cX8_sure 14 = .ok (.invokevirtual 136, 3) := by decide +kernel
theorem dX8_sure_17 : decode cX8_sure 17 = .ok (.ireturn, 1) := by decide +kernel
theorem dX8_sure_18 : decode cX8_sure 18 = .ok (.iload_n 1, 1) := by decide +kernel
theorem dX8_sure_19 : decode cX8_sure 19 = .ok (.ifCond .lt 11, 3) := by decide +kernel
theorem dX8_sure_22 : decode cX8_sure 22 = .ok (.iload_n 1, 1) := by decide +kernel
theorem dX8_sure_23 : decode cX8_sure 23 = .ok (.aload_n 0, 1) := by decide +kernel
theorem dX8_sure_24 : decode cX8_sure 24 = .ok (.getfield 175, 3) := by decide +kernel
theorem dX8_sure_27 : decode cX8_sure 27 = .ok (.if_icmp .lt 9, 3) := by decide +kernel
theorem dX8_sure_30 : decode cX8_sure 30 = .ok (.aload_n 0, 1) := by decide +kernel
theorem dX8_sure_31 : decode cX8_sure 31 = .ok (.iconst 1, 1) := by decide +kernel
theorem dX8_sure_32 : decode cX8_sure 32 = .ok (.invokevirtual 136, 3) := by decide +kernel
theorem dX8_sure_35 : decode cX8_sure 35 = .ok (.ireturn, 1) := by decide +kernel
theorem dX8_sure_36 : decode cX8_sure 36 = .ok (.aload_n 0, 1) := by decide +kernel
theorem dX8_sure_37 : decode cX8_sure 37 = .ok (.invokevirtual 200, 3) := by decide +kernel
theorem dX8_sure_40 : decode cX8_sure 40 = .ok (.aload_n 0, 1) := by decide +kernel
theorem dX8_sure_41 : decode cX8_sure 41 = .ok (.iconst (-1), 1) := by decide +kernel
theorem dX8_sure_42 : decode cX8_sure 42 = .ok (.iconst (-1), 1) := by decide +kernel
theorem dX8_sure_43 : decode cX8_sure 43 = .ok (.invokevirtual 203, 3) := by decide +kernel
theorem dX8_sure_46 : decode cX8_sure 46 = .ok (.aload_n 0, 1) := by decide +kernel
theorem dX8_sure_47 : decode cX8_sure 47 = .ok (.invokevirtual 206, 3) := by decide +kernel
theorem dX8_sure_50 : decode cX8_sure 50 = .ok (.istore_n 2, 1) := by decide +kernel
theorem dX8_sure_51 : decode cX8_sure 51 = .ok (.aload_n 0, 1) := by decide +kernel
theorem dX8_sure_52 : decode cX8_sure 52 = .ok (.getfield 74, 3) := by decide +kernel
theorem dX8_sure_55 : decode cX8_sure 55 = .ok (.iload_n 2, 1) := by decide +kernel
theorem dX8_sure_56 : decode cX8_sure 56 = .ok (.iaload, 1) := by decide +kernel
theorem dX8_sure_57 : decode cX8_sure 57 = .ok (.istore_n 3, 1) := by decide +kernel
theorem dX8_sure_58 : decode cX8_sure 58 = .ok (.aload_n 0, 1) := by decide +kernel
theorem dX8_sure_59 : decode cX8_sure 59 = .ok (.iload_n 1, 1) := by decide +kernel
theorem dX8_sure_60 : decode cX8_sure 60 = .ok (.aload_n 0, 1) := by decide +kernel
theorem dX8_sure_61 : decode cX8_sure 61 = .ok (.getfield 82, 3) := by decide +kernel
theorem dX8_sure_64 : decode cX8_sure 64 = .ok (.iload_n 2, 1) := by decide +kernel
theorem dX8_sure_65 : decode cX8_sure 65 = .ok (.aaload, 1) := by decide +kernel
theorem dX8_sure_66 : decode cX8_sure 66 = .ok (.iload_n 1, 1) := by decide +kernel
theorem dX8_sure_67 : decode cX8_sure 67 = .ok (.baload, 1) := by decide +kernel
theorem dX8_sure_68 : decode cX8_sure 68 = .ok (.invokevirtual 203, 3) := by decide +kernel
theorem dX8_sure_71 : decode cX8_sure 71 = .ok (.aload_n 0, 1) := by decide +kernel
theorem dX8_sure_72 : decode cX8_sure 72 = .ok (.getfield 74, 3) := by decide +kernel
theorem dX8_sure_75 : decode cX8_sure 75 = .ok (.aload_n 0, 1) := by decide +kernel
theorem dX8_sure_76 : decode cX8_sure 76 = .ok (.invokevirtual 206, 3) := by decide +kernel
theorem dX8_sure_79 : decode cX8_sure 79 = .ok (.iaload, 1) := by decide +kernel
theorem dX8_sure_80 : decode cX8_sure 80 = .ok (.istore 4, 2) := by decide +kernel
theorem dX8_sure_82 : decode cX8_sure 82 = .ok (.aload_n 0, 1) := by decide +kernel
theorem dX8_sure_83 : decode cX8_sure 83 = .ok (.iload 4, 2) := by decide +kernel
theorem dX8_sure_85 : decode cX8_sure 85 = .ok (.ldc 191, 2) := by decide +kernel
theorem dX8_sure_87 : decode cX8_sure 87 = .ok (.if_icmp .ne 8, 3) := by decide +kernel
theorem dX8_sure_90 : decode cX8_sure 90 = .ok (.ldc 191, 2) := by decide +kernel
theorem dX8_sure_92 : decode cX8_sure 92 = .ok (.goto 7, 3) := by decide +kernel
theorem dX8_sure_95 : decode cX8_sure 95 = .ok (.iload 4, 2) := by decide +kernel
theorem dX8_sure_97 : decode cX8_sure 97 = .ok (.iload_n 3, 1) := by decide +kernel
theorem dX8_sure_98 : decode cX8_sure 98 = .ok (.isub, 1) := by decide +kernel
theorem dX8_sure_99 : decode cX8_sure 99 = .ok (.invokevirtual 139, 3) := by decide +kernel
theorem dX8_sure_102 : decode cX8_sure 102 = .ok (.ireturn, 1) := by decide +kernel
set_option maxRecDepth 100000 in
theorem ggX8_fixed_X8_isAsked : GoodIn wsX8_fixed wsX8_isAsked := goodIn_r _ [9, 10, 3, 89, 90, 91, 92, 93, 94, 95, 96, 97, 98, 99, 100, 101, 102, 103, 104, 105, 106, 107, 108, 109, 110, 111, 112, 113, 114, 115, 116, 117, 118, 119, 120, 121, 122, 123, 124, 125, 126] (by rfl) (by decide +kernel)
set_option maxRecDepth 20000 in
theorem gX8_fixed_X8_isAsked : GoodIn wsX8_fixed (wsV RX8 196 RX8 yX8_isAsked wsX8_isAsked) := goodIn_app (goodIn_of _ (by decide +kernel)) ggX8_fixed_X8_isAsked
set_option maxRecDepth 100000 in
theorem ggX8_fixed_X8_refused : GoodIn wsX8_fixed wsX8_refused := goodIn_r _ [14, 15, 89, 90, 91, 92, 93, 94, 95, 96, 97, 98, 99, 100, 101, 102, 103, 104, 105, 106, 107, 108, 109, 110, 111, 112, 113, 114, 115, 116, 117, 118, 119, 120, 121, 122, 123, 124, 125, 126] (by rfl) (by decide +kernel)
set_option maxRecDepth 20000 in
theorem gX8_fixed_X8_refused : GoodIn wsX8_fixed (wsV RX8 136 RX8 yX8_refused wsX8_refused) := goodIn_app (goodIn_of _ (by decide +kernel)) ggX8_fixed_X8_refused
set_option maxRecDepth 100000 in
theorem ggX8_fixed_X8_done : GoodIn wsX8_fixed wsX8_done := goodIn_r _ [19, 15, 89, 90, 91, 92, 93, 94, 95, 96, 97, 98, 99, 100, 101, 102, 103, 104, 105, 106, 107, 108, 109, 110, 111, 112, 113, 114, 115, 116, 117, 118, 119, 120, 121, 122, 123, 124, 125, 126] (by rfl) (by decide +kernel)
set_option maxRecDepth 20000 in
theorem gX8_fixed_X8_done : GoodIn wsX8_fixed (wsV RX8 139 RX8 yX8_done wsX8_done) := goodIn_app (goodIn_of _ (by decide +kernel)) ggX8_fixed_X8_done
set_option maxRecDepth 100000 in
theorem ggX8_fixed_X8_costs : GoodIn wsX8_fixed wsX8_costs := goodIn_r _ [23, 2, 3, 24, 25, 26, 27, 8, 28, 29, 30, 31, 32, 33, 34, 35, 36, 37, 38, 39, 40, 41, 42, 43, 44, 45, 46, 47, 48, 49, 50, 51, 52, 53, 54, 55, 56, 57, 58, 59, 60, 61, 62, 63, 64, 65, 66, 67, 68, 69, 70, 71, 72, 73, 74, 75, 76, 89, 90, 91, 92, 93, 94, 95, 96, 97, 98, 99, 100, 101, 102, 103, 104, 105, 106, 107, 108, 109, 110, 111, 112, 113, 114, 115, 116, 117, 118, 119, 120, 121, 122, 123, 124, 125, 126] (by rfl) (by decide +kernel)
set_option maxRecDepth 20000 in
theorem gX8_fixed_X8_costs : GoodIn wsX8_fixed (wsV RX8 200 RX8 yX8_costs wsX8_costs) := goodIn_app (goodIn_of _ (by decide +kernel)) ggX8_fixed_X8_costs
set_option maxRecDepth 100000 in
theorem ggX8_fixed_X8_parts : GoodIn wsX8_fixed wsX8_parts := goodIn_r _ [80, 2, 3, 81, 24, 82, 83, 84, 4, 85, 86, 87, 8, 88, 89, 90, 91, 92, 93, 94, 95, 96, 97, 98, 99, 100, 101, 102, 103, 104, 105, 106, 107, 108, 109, 110, 111, 112, 113, 114, 115, 116, 117, 118, 119, 120, 121, 122, 123, 124, 125, 126] (by rfl) (by decide +kernel)
set_option maxRecDepth 20000 in
theorem gX8_fixed_X8_parts : GoodIn wsX8_fixed (wsV RX8 203 RX8 yX8_parts wsX8_parts) := goodIn_app (goodIn_of _ (by decide +kernel)) ggX8_fixed_X8_parts
theorem dX8_fixed_0 : decode cX8_fixed 0 = .ok (.aload_n 0, 1) := by decide +kernel
theorem dX8_fixed_1 : decode cX8_fixed 1 = .ok (.iconst 0, 1) := by decide +kernel
theorem dX8_fixed_2 : decode cX8_fixed 2 = .ok (.putfield 97, 3) := by decide +kernel
theorem dX8_fixed_5 : decode cX8_fixed 5 = .ok (.aload_n 0, 1) := by decide +kernel
theorem dX8_fixed_6 : decode cX8_fixed 6 = .ok (.invokevirtual 196, 3) := by decide +kernel
theorem dX8_fixed_9 : decode cX8_fixed 9 = .ok (.ifCond .ne 9, 3) := by decide +kernel
theorem dX8_fixed_12 : decode cX8_fixed 12 = .ok (.aload_n 0, 1) := by decide +kernel
theorem dX8_fixed_13 : decode cX8_fixed 13 = .ok (.iconst 5, 1) := by decide +kernel
theorem dX8_fixed_14 : decode cX8_fixed 14 = .ok (.invokevirtual 136, 3) := by decide +kernel
theorem dX8_fixed_17 : decode cX8_fixed 17 = .ok (.ireturn, 1) := by decide +kernel
theorem dX8_fixed_18 : decode cX8_fixed 18 = .ok (.aload_n 0, 1) := by decide +kernel
theorem dX8_fixed_19 : decode cX8_fixed 19 = .ok (.getfield 175, 3) := by decide +kernel
theorem dX8_fixed_22 : decode cX8_fixed 22 = .ok (.ifCond .ne 9, 3) := by decide +kernel
theorem dX8_fixed_25 : decode cX8_fixed 25 = .ok (.aload_n 0, 1) := by decide +kernel
theorem dX8_fixed_26 : decode cX8_fixed 26 = .ok (.iconst 0, 1) := by decide +kernel
theorem dX8_fixed_27 : decode cX8_fixed 27 = .ok (.invokevirtual 139, 3) := by decide +kernel
theorem dX8_fixed_30 : decode cX8_fixed 30 = .ok (.ireturn, 1) := by decide +kernel
theorem dX8_fixed_31 : decode cX8_fixed 31 = .ok (.aload_n 0, 1) := by decide +kernel
theorem dX8_fixed_32 : decode cX8_fixed 32 = .ok (.invokevirtual 200, 3) := by decide +kernel
theorem dX8_fixed_35 : decode cX8_fixed 35 = .ok (.aload_n 0, 1) := by decide +kernel
theorem dX8_fixed_36 : decode cX8_fixed 36 = .ok (.iconst (-1), 1) := by decide +kernel
theorem dX8_fixed_37 : decode cX8_fixed 37 = .ok (.iconst (-1), 1) := by decide +kernel
theorem dX8_fixed_38 : decode cX8_fixed 38 = .ok (.invokevirtual 203, 3) := by decide +kernel
theorem dX8_fixed_41 : decode cX8_fixed 41 = .ok (.iconst 0, 1) := by decide +kernel
theorem dX8_fixed_42 : decode cX8_fixed 42 = .ok (.istore_n 1, 1) := by decide +kernel
theorem dX8_fixed_43 : decode cX8_fixed 43 = .ok (.iconst 1, 1) := by decide +kernel
theorem dX8_fixed_44 : decode cX8_fixed 44 = .ok (.istore_n 2, 1) := by decide +kernel
theorem dX8_fixed_45 : decode cX8_fixed 45 = .ok (.iload_n 1, 1) := by decide +kernel
theorem dX8_fixed_46 : decode cX8_fixed 46 = .ok (.aload_n 0, 1) := by decide +kernel
theorem dX8_fixed_47 : decode cX8_fixed 47 = .ok (.getfield 175, 3) := by decide +kernel
theorem dX8_fixed_50 : decode cX8_fixed 50 = .ok (.if_icmp .ge 67, 3) := by decide +kernel
theorem dX8_fixed_53 : decode cX8_fixed 53 = .ok (.iload_n 2, 1) := by decide +kernel
theorem dX8_fixed_54 : decode cX8_fixed 54 = .ok (.ifCond .eq 63, 3) := by decide +kernel
theorem dX8_fixed_57 : decode cX8_fixed 57 = .ok (.iconst 1, 1) := by decide +kernel
theorem dX8_fixed_58 : decode cX8_fixed 58 = .ok (.istore_n 3, 1) := by decide +kernel
theorem dX8_fixed_59 : decode cX8_fixed 59 = .ok (.iload_n 3, 1) := by decide +kernel
theorem dX8_fixed_60 : decode cX8_fixed 60 = .ok (.aload_n 0, 1) := by decide +kernel
theorem dX8_fixed_61 : decode cX8_fixed 61 = .ok (.getfield 133, 3) := by decide +kernel
theorem dX8_fixed_64 : decode cX8_fixed 64 = .ok (.if_icmp .ge 38, 3) := by decide +kernel
theorem dX8_fixed_67 : decode cX8_fixed 67 = .ok (.iload_n 2, 1) := by decide +kernel
theorem dX8_fixed_68 : decode cX8_fixed 68 = .ok (.ifCond .eq 26, 3) := by decide +kernel
theorem dX8_fixed_71 : decode cX8_fixed 71 = .ok (.aload_n 0, 1) := by decide +kernel
theorem dX8_fixed_72 : decode cX8_fixed 72 = .ok (.getfield 82, 3) := by decide +kernel
theorem dX8_fixed_75 : decode cX8_fixed 75 = .ok (.iload_n 3, 1) := by decide +kernel
theorem dX8_fixed_76 : decode cX8_fixed 76 = .ok (.aaload, 1) := by decide +kernel
theorem dX8_fixed_77 : decode cX8_fixed 77 = .ok (.iload_n 1, 1) := by decide +kernel
theorem dX8_fixed_78 : decode cX8_fixed 78 = .ok (.baload, 1) := by decide +kernel
theorem dX8_fixed_79 : decode cX8_fixed 79 = .ok (.aload_n 0, 1) := by decide +kernel
theorem dX8_fixed_80 : decode cX8_fixed 80 = .ok (.getfield 82, 3) := by decide +kernel
theorem dX8_fixed_83 : decode cX8_fixed 83 = .ok (.iconst 0, 1) := by decide +kernel
theorem dX8_fixed_84 : decode cX8_fixed 84 = .ok (.aaload, 1) := by decide +kernel
theorem dX8_fixed_85 : decode cX8_fixed 85 = .ok (.iload_n 1, 1) := by decide +kernel
theorem dX8_fixed_86 : decode cX8_fixed 86 = .ok (.baload, 1) := by decide +kernel
theorem dX8_fixed_87 : decode cX8_fixed 87 = .ok (.if_icmp .ne 7, 3) := by decide +kernel
theorem dX8_fixed_90 : decode cX8_fixed 90 = .ok (.iconst 1, 1) := by decide +kernel
theorem dX8_fixed_91 : decode cX8_fixed 91 = .ok (.goto 4, 3) := by decide +kernel
theorem dX8_fixed_94 : decode cX8_fixed 94 = .ok (.iconst 0, 1) := by decide +kernel
theorem dX8_fixed_95 : decode cX8_fixed 95 = .ok (.istore_n 2, 1) := by decide +kernel
theorem dX8_fixed_96 : decode cX8_fixed 96 = .ok (.iinc 3 1, 3) := by decide +kernel
theorem dX8_fixed_99 : decode cX8_fixed 99 = .ok (.goto (-40), 3) := by decide +kernel
theorem dX8_fixed_102 : decode cX8_fixed 102 = .ok (.iload_n 1, 1) := by decide +kernel
theorem dX8_fixed_103 : decode cX8_fixed 103 = .ok (.iload_n 2, 1) := by decide +kernel
theorem dX8_fixed_104 : decode cX8_fixed 104 = .ok (.ifCond .eq 7, 3) := by decide +kernel
theorem dX8_fixed_107 : decode cX8_fixed 107 = .ok (.iconst 1, 1) := by decide +kernel
theorem dX8_fixed_108 : decode cX8_fixed 108 = .ok (.goto 4, 3) := by decide +kernel
theorem dX8_fixed_111 : decode cX8_fixed 111 = .ok (.iconst 0, 1) := by decide +kernel
theorem dX8_fixed_112 : decode cX8_fixed 112 = .ok (.iadd, 1) := by decide +kernel
theorem dX8_fixed_113 : decode cX8_fixed 113 = .ok (.istore_n 1, 1) := by decide +kernel
theorem dX8_fixed_114 : decode cX8_fixed 114 = .ok (.goto (-69), 3) := by decide +kernel
theorem dX8_fixed_117 : decode cX8_fixed 117 = .ok (.aload_n 0, 1) := by decide +kernel
theorem dX8_fixed_118 : decode cX8_fixed 118 = .ok (.iload_n 1, 1) := by decide +kernel
theorem dX8_fixed_119 : decode cX8_fixed 119 = .ok (.invokevirtual 139, 3) := by decide +kernel
theorem dX8_fixed_122 : decode cX8_fixed 122 = .ok (.ireturn, 1) := by decide +kernel
set_option maxRecDepth 100000 in
theorem ggX8_whole_X8_isAsked : GoodIn wsX8_whole wsX8_isAsked := goodIn_r _ [7, 8, 9, 75, 76, 77, 78, 79, 80, 81, 82, 83, 84, 85, 86, 87, 88, 89, 90, 91, 92, 93, 94, 95, 96, 97, 98, 99, 100, 101, 102, 103, 104, 105, 106, 107, 108, 109, 110, 111, 112] (by rfl) (by decide +kernel)
set_option maxRecDepth 20000 in
theorem gX8_whole_X8_isAsked : GoodIn wsX8_whole (wsV RX8 196 RX8 yX8_isAsked wsX8_isAsked) := goodIn_app (goodIn_of _ (by decide +kernel)) ggX8_whole_X8_isAsked
set_option maxRecDepth 100000 in
theorem ggX8_whole_X8_refused : GoodIn wsX8_whole wsX8_refused := goodIn_r _ [13, 14, 75, 76, 77, 78, 79, 80, 81, 82, 83, 84, 85, 86, 87, 88, 89, 90, 91, 92, 93, 94, 95, 96, 97, 98, 99, 100, 101, 102, 103, 104, 105, 106, 107, 108, 109, 110, 111, 112] (by rfl) (by decide +kernel)
set_option maxRecDepth 20000 in
theorem gX8_whole_X8_refused : GoodIn wsX8_whole (wsV RX8 136 RX8 yX8_refused wsX8_refused) := goodIn_app (goodIn_of _ (by decide +kernel)) ggX8_whole_X8_refused
set_option maxRecDepth 100000 in
theorem ggX8_whole_X8_isTongue : GoodIn wsX8_whole wsX8_isTongue := goodIn_r _ [18, 9, 75, 76, 77, 78, 79, 80, 81, 82, 83, 84, 85, 86, 87, 88, 89, 90, 91, 92, 93, 94, 95, 96, 97, 98, 99, 100, 101, 102, 103, 104, 105, 106, 107, 108, 109, 110, 111, 112] (by rfl) (by decide +kernel)
set_option maxRecDepth 20000 in
theorem gX8_whole_X8_isTongue : GoodIn wsX8_whole (wsV RX8 142 RX8 yX8_isTongue wsX8_isTongue) := goodIn_app (goodIn_of _ (by decide +kernel)) ggX8_whole_X8_isTongue
set_option maxRecDepth 100000 in
theorem ggX8_whole_X8_cuts : GoodIn wsX8_whole wsX8_cuts := goodIn_r _ [22, 23, 24, 25, 26, 27, 6, 28, 29, 30, 31, 32, 33, 34, 35, 36, 37, 75, 76, 77, 78, 79, 80, 81, 82, 83, 84, 85, 86, 87, 88, 89, 90, 91, 92, 93, 94, 95, 96, 97, 98, 99, 100, 101, 102, 103, 104, 105, 106, 107, 108, 109, 110, 111, 112] (by rfl) (by decide +kernel)
set_option maxRecDepth 20000 in
theorem gX8_whole_X8_cuts : GoodIn wsX8_whole (wsV RX8 182 RX8 yX8_cuts wsX8_cuts) := goodIn_app (goodIn_of _ (by decide +kernel)) ggX8_whole_X8_cuts
set_option maxRecDepth 100000 in
theorem ggX8_whole_X8_wordCost : GoodIn wsX8_whole wsX8_wordCost := goodIn_r _ [41, 31, 23, 29, 30, 42, 43, 44, 45, 46, 6, 47, 48, 49, 50, 51, 52, 53, 54, 55, 56, 57, 58, 59, 60, 35, 36, 37, 61, 62, 63, 64, 65, 66, 67, 68, 69, 70, 75, 76, 77, 78, 79, 80, 81, 82, 83, 84, 85, 86, 87, 88, 89, 90, 91, 92, 93, 94, 95, 96, 97, 98, 99, 100, 101, 102, 103, 104, 105, 106, 107, 108, 109, 110, 111, 112] (by rfl) (by decide +kernel)
set_option maxRecDepth 20000 in
theorem gX8_whole_X8_wordCost : GoodIn wsX8_whole (wsV RX8 188 RX8 yX8_wordCost wsX8_wordCost) := goodIn_app (goodIn_of _ (by decide +kernel)) ggX8_whole_X8_wordCost
set_option maxRecDepth 100000 in
theorem ggX8_whole_X8_done : GoodIn wsX8_whole wsX8_done := goodIn_r _ [74, 14, 75, 76, 77, 78, 79, 80, 81, 82, 83, 84, 85, 86, 87, 88, 89, 90, 91, 92, 93, 94, 95, 96, 97, 98, 99, 100, 101, 102, 103, 104, 105, 106, 107, 108, 109, 110, 111, 112] (by rfl) (by decide +kernel)
set_option maxRecDepth 20000 in
theorem gX8_whole_X8_done : GoodIn wsX8_whole (wsV RX8 139 RX8 yX8_done wsX8_done) := goodIn_app (goodIn_of _ (by decide +kernel)) ggX8_whole_X8_done
theorem dX8_whole_0 : decode cX8_whole 0 = .ok (.aload_n 0, 1) := by decide +kernel
theorem dX8_whole_1 : decode cX8_whole 1 = .ok (.iconst 0, 1) := by decide +kernel
theorem dX8_whole_2 : decode cX8_whole 2 = .ok (.putfield 97, 3) := by decide +kernel
theorem dX8_whole_5 : decode cX8_whole 5 = .ok (.aload_n 0, 1) := by decide +kernel
theorem dX8_whole_6 : decode cX8_whole 6 = .ok (.invokevirtual 196, 3) := by decide +kernel
theorem dX8_whole_9 : decode cX8_whole 9 = .ok (.ifCond .ne 9, 3) := by decide +kernel
theorem dX8_whole_12 : decode cX8_whole 12 = .ok (.aload_n 0, 1) := by decide +kernel
theorem dX8_whole_13 : decode cX8_whole 13 = .ok (.iconst 5, 1) := by decide +kernel
theorem dX8_whole_14 : decode cX8_whole 14 = .ok (.invokevirtual 136, 3) := by decide +kernel
theorem dX8_whole_17 : decode cX8_whole 17 = .ok (.ireturn, 1) := by decide +kernel
theorem dX8_whole_18 : decode cX8_whole 18 = .ok (.aload_n 0, 1) := by decide +kernel
theorem dX8_whole_19 : decode cX8_whole 19 = .ok (.iload_n 1, 1) := by decide +kernel
theorem dX8_whole_20 : decode cX8_whole 20 = .ok (.invokevirtual 142, 3) := by decide +kernel
theorem dX8_whole_23 : decode cX8_whole 23 = .ok (.ifCond .ne 9, 3) := by decide +kernel
theorem dX8_whole_26 : decode cX8_whole 26 = .ok (.aload_n 0, 1) := by decide +kernel
theorem dX8_whole_27 : decode cX8_whole 27 = .ok (.iconst 1, 1) := by decide +kernel
theorem dX8_whole_28 : decode cX8_whole 28 = .ok (.invokevirtual 136, 3) := by decide +kernel
theorem dX8_whole_31 : decode cX8_whole 31 = .ok (.ireturn, 1) := by decide +kernel
theorem dX8_whole_32 : decode cX8_whole 32 = .ok (.aload_n 0, 1) := by decide +kernel
theorem dX8_whole_33 : decode cX8_whole 33 = .ok (.invokevirtual 182, 3) := by decide +kernel
theorem dX8_whole_36 : decode cX8_whole 36 = .ok (.iconst 0, 1) := by decide +kernel
theorem dX8_whole_37 : decode cX8_whole 37 = .ok (.istore_n 2, 1) := by decide +kernel
theorem dX8_whole_38 : decode cX8_whole 38 = .ok (.iconst 0, 1) := by decide +kernel
theorem dX8_whole_39 : decode cX8_whole 39 = .ok (.istore_n 3, 1) := by decide +kernel
theorem dX8_whole_40 : decode cX8_whole 40 = .ok (.iload_n 3, 1) := by decide +kernel
theorem dX8_whole_41 : decode cX8_whole 41 = .ok (.aload_n 0, 1) := by decide +kernel
theorem dX8_whole_42 : decode cX8_whole 42 = .ok (.getfield 175, 3) := by decide +kernel
theorem dX8_whole_45 : decode cX8_whole 45 = .ok (.if_icmp .ge 18, 3) := by decide +kernel
theorem dX8_whole_48 : decode cX8_whole 48 = .ok (.iload_n 2, 1) := by decide +kernel
theorem dX8_whole_49 : decode cX8_whole 49 = .ok (.aload_n 0, 1) := by decide +kernel
theorem dX8_whole_50 : decode cX8_whole 50 = .ok (.iload_n 3, 1) := by decide +kernel
theorem dX8_whole_51 : decode cX8_whole 51 = .ok (.iload_n 1, 1) := by decide +kernel
theorem dX8_whole_52 : decode cX8_whole 52 = .ok (.invokevirtual 188, 3) := by decide +kernel
theorem dX8_whole_55 : decode cX8_whole 55 = .ok (.iadd, 1) := by decide +kernel
theorem dX8_whole_56 : decode cX8_whole 56 = .ok (.istore_n 2, 1) := by decide +kernel
theorem dX8_whole_57 : decode cX8_whole 57 = .ok (.iinc 3 1, 3) := by decide +kernel
theorem dX8_whole_60 : decode cX8_whole 60 = .ok (.goto (-20), 3) := by decide +kernel
theorem dX8_whole_63 : decode cX8_whole 63 = .ok (.aload_n 0, 1) := by decide +kernel
theorem dX8_whole_64 : decode cX8_whole 64 = .ok (.iload_n 2, 1) := by decide +kernel
theorem dX8_whole_65 : decode cX8_whole 65 = .ok (.invokevirtual 139, 3) := by decide +kernel
theorem dX8_whole_68 : decode cX8_whole 68 = .ok (.ireturn, 1) := by decide +kernel
set_option maxRecDepth 100000 in
theorem ggX8_tells_X8_isAsked : GoodIn wsX8_tells wsX8_isAsked := goodIn_r _ [11, 12, 13, 79, 80, 81, 82, 83, 84, 85, 86, 87, 88, 89, 90, 91, 92, 93, 94, 95, 96, 97, 98, 99, 100, 101, 102, 103, 104, 105, 106, 107, 108, 109, 110, 111, 112, 113, 114, 115, 116] (by rfl) (by decide +kernel)
set_option maxRecDepth 20000 in
theorem gX8_tells_X8_isAsked : GoodIn wsX8_tells (wsV RX8 196 RX8 yX8_isAsked wsX8_isAsked) := goodIn_app (goodIn_of _ (by decide +kernel)) ggX8_tells_X8_isAsked
set_option maxRecDepth 100000 in
theorem ggX8_tells_X8_refused : GoodIn wsX8_tells wsX8_refused := goodIn_r _ [17, 18, 79, 80, 81, 82, 83, 84, 85, 86, 87, 88, 89, 90, 91, 92, 93, 94, 95, 96, 97, 98, 99, 100, 101, 102, 103, 104, 105, 106, 107, 108, 109, 110, 111, 112, 113, 114, 115, 116] (by rfl) (by decide +kernel)
set_option maxRecDepth 20000 in
theorem gX8_tells_X8_refused : GoodIn wsX8_tells (wsV RX8 136 RX8 yX8_refused wsX8_refused) := goodIn_app (goodIn_of _ (by decide +kernel)) ggX8_tells_X8_refused
set_option maxRecDepth 100000 in
theorem ggX8_tells_X8_isTongue : GoodIn wsX8_tells wsX8_isTongue := goodIn_r _ [22, 13, 79, 80, 81, 82, 83, 84, 85, 86, 87, 88, 89, 90, 91, 92, 93, 94, 95, 96, 97, 98, 99, 100, 101, 102, 103, 104, 105, 106, 107, 108, 109, 110, 111, 112, 113, 114, 115, 116] (by rfl) (by decide +kernel)
set_option maxRecDepth 20000 in
theorem gX8_tells_X8_isTongue : GoodIn wsX8_tells (wsV RX8 142 RX8 yX8_isTongue wsX8_isTongue) := goodIn_app (goodIn_of _ (by decide +kernel)) ggX8_tells_X8_isTongue
set_option maxRecDepth 100000 in
theorem ggX8_tells_X8_cuts : GoodIn wsX8_tells wsX8_cuts := goodIn_r _ [26, 27, 28, 29, 30, 31, 10, 32, 33, 34, 35, 36, 37, 38, 39, 40, 41, 79, 80, 81, 82, 83, 84, 85, 86, 87, 88, 89, 90, 91, 92, 93, 94, 95, 96, 97, 98, 99, 100, 101, 102, 103, 104, 105, 106, 107, 108, 109, 110, 111, 112, 113, 114, 115, 116] (by rfl) (by decide +kernel)
set_option maxRecDepth 20000 in
theorem gX8_tells_X8_cuts : GoodIn wsX8_tells (wsV RX8 182 RX8 yX8_cuts wsX8_cuts) := goodIn_app (goodIn_of _ (by decide +kernel)) ggX8_tells_X8_cuts
set_option maxRecDepth 100000 in
theorem ggX8_tells_X8_wordCost : GoodIn wsX8_tells wsX8_wordCost := goodIn_r _ [45, 35, 27, 33, 34, 46, 47, 48, 49, 50, 10, 51, 52, 53, 54, 55, 56, 57, 58, 59, 60, 61, 62, 63, 64, 39, 40, 41, 65, 66, 67, 68, 69, 70, 71, 72, 73, 74, 79, 80, 81, 82, 83, 84, 85, 86, 87, 88, 89, 90, 91, 92, 93, 94, 95, 96, 97, 98, 99, 100, 101, 102, 103, 104, 105, 106, 107, 108, 109, 110, 111, 112, 113, 114, 115, 116] (by rfl) (by decide +kernel)
set_option maxRecDepth 20000 in
theorem gX8_tells_X8_wordCost : GoodIn wsX8_tells (wsV RX8 188 RX8 yX8_wordCost wsX8_wordCost) := goodIn_app (goodIn_of _ (by decide +kernel)) ggX8_tells_X8_wordCost
set_option maxRecDepth 100000 in
theorem ggX8_tells_X8_done : GoodIn wsX8_tells wsX8_done := goodIn_r _ [78, 18, 79, 80, 81, 82, 83, 84, 85, 86, 87, 88, 89, 90, 91, 92, 93, 94, 95, 96, 97, 98, 99, 100, 101, 102, 103, 104, 105, 106, 107, 108, 109, 110, 111, 112, 113, 114, 115, 116] (by rfl) (by decide +kernel)
set_option maxRecDepth 20000 in
theorem gX8_tells_X8_done : GoodIn wsX8_tells (wsV RX8 139 RX8 yX8_done wsX8_done) := goodIn_app (goodIn_of _ (by decide +kernel)) ggX8_tells_X8_done
theorem dX8_tells_0 : decode cX8_tells 0 = .ok (.aload_n 0, 1) := by decide +kernel
theorem dX8_tells_1 : decode cX8_tells 1 = .ok (.iconst 0, 1) := by decide +kernel
theorem dX8_tells_2 : decode cX8_tells 2 = .ok (.putfield 97, 3) := by decide +kernel
theorem dX8_tells_5 : decode cX8_tells 5 = .ok (.aload_n 0, 1) := by decide +kernel
theorem dX8_tells_6 : decode cX8_tells 6 = .ok (.invokevirtual 196, 3) := by decide +kernel
theorem dX8_tells_9 : decode cX8_tells 9 = .ok (.ifCond .ne 9, 3) := by decide +kernel
theorem dX8_tells_12 : decode cX8_tells 12 = .ok (.aload_n 0, 1) := by decide +kernel
theorem dX8_tells_13 : decode cX8_tells 13 = .ok (.iconst 5, 1) := by decide +kernel
theorem dX8_tells_14 : decode cX8_tells 14 = .ok (.invokevirtual 136, 3) := by decide +kernel
theorem dX8_tells_17 : decode cX8_tells 17 = .ok (.ireturn, 1) := by decide +kernel
theorem dX8_tells_18 : decode cX8_tells 18 = .ok (.aload_n 0, 1) := by decide +kernel
theorem dX8_tells_19 : decode cX8_tells 19 = .ok (.iload_n 1, 1) := by decide +kernel
theorem dX8_tells_20 : decode cX8_tells 20 = .ok (.invokevirtual 142, 3) := by decide +kernel
theorem dX8_tells_23 : decode cX8_tells 23 = .ok (.ifCond .eq 16, 3) := by decide +kernel
theorem dX8_tells_26 : decode cX8_tells 26 = .ok (.aload_n 0, 1) := by decide +kernel
theorem dX8_tells_27 : decode cX8_tells 27 = .ok (.iload_n 2, 1) := by decide +kernel
theorem dX8_tells_28 : decode cX8_tells 28 = .ok (.invokevirtual 142, 3) := by decide +kernel
theorem dX8_tells_31 : decode cX8_tells 31 = .ok (.ifCond .eq 8, 3) := by decide +kernel
theorem dX8_tells_34 : decode cX8_tells 34 = .ok (.iload_n 1, 1) := by decide +kernel
theorem dX8_tells_35 : decode cX8_tells 35 = .ok (.iload_n 2, 1) := by decide +kernel
theorem dX8_tells_36 : decode cX8_tells 36 = .ok (.if_icmp .ne 9, 3) := by decide +kernel
theorem dX8_tells_39 : decode cX8_tells 39 = .ok (.aload_n 0, 1) := by decide +kernel
theorem dX8_tells_40 : decode cX8_tells 40 = .ok (.iconst 1, 1) := by decide +kernel
theorem dX8_tells_41 : decode cX8_tells 41 = .ok (.invokevirtual 136, 3) := by decide +kernel
theorem dX8_tells_44 : decode cX8_tells 44 = .ok (.ireturn, 1) := by decide +kernel
theorem dX8_tells_45 : decode cX8_tells 45 = .ok (.aload_n 0, 1) := by decide +kernel
theorem dX8_tells_46 : decode cX8_tells 46 = .ok (.invokevirtual 182, 3) := by decide +kernel
theorem dX8_tells_49 : decode cX8_tells 49 = .ok (.bipush 60, 2) := by decide +kernel
theorem dX8_tells_51 : decode cX8_tells 51 = .ok (.newarray .boolean, 2) := by decide +kernel
theorem dX8_tells_53 : decode cX8_tells 53 = .ok (.astore_n 3, 1) := by decide +kernel
theorem dX8_tells_54 : decode cX8_tells 54 = .ok (.iconst 0, 1) := by decide +kernel
theorem dX8_tells_55 : decode cX8_tells 55 = .ok (.istore 4, 2) := by decide +kernel
theorem dX8_tells_57 : decode cX8_tells 57 = .ok (.iconst 0, 1) := by decide +kernel
theorem dX8_tells_58 : decode cX8_tells 58 = .ok (.istore 5, 2) := by decide +kernel
theorem dX8_tells_60 : decode cX8_tells 60 = .ok (.iload 4, 2) := by decide +kernel
theorem dX8_tells_62 : decode cX8_tells 62 = .ok (.aload_n 0, 1) := by decide +kernel
theorem dX8_tells_63 : decode cX8_tells 63 = .ok (.getfield 62, 3) := by decide +kernel
theorem dX8_tells_66 : decode cX8_tells 66 = .ok (.if_icmp .ge 104, 3) := by decide +kernel
theorem dX8_tells_69 : decode cX8_tells 69 = .ok (.iconst (-1), 1) := by decide +kernel
theorem dX8_tells_70 : decode cX8_tells 70 = .ok (.istore 6, 2) := by decide +kernel
theorem dX8_tells_72 : decode cX8_tells 72 = .ok (.iconst 0, 1) := by decide +kernel
theorem dX8_tells_73 : decode cX8_tells 73 = .ok (.istore 7, 2) := by decide +kernel
theorem dX8_tells_75 : decode cX8_tells 75 = .ok (.iconst 0, 1) := by decide +kernel
theorem dX8_tells_76 : decode cX8_tells 76 = .ok (.istore 8, 2) := by decide +kernel
theorem dX8_tells_78 : decode cX8_tells 78 = .ok (.iload 8, 2) := by decide +kernel
theorem dX8_tells_80 : decode cX8_tells 80 = .ok (.aload_n 0, 1) := by decide +kernel
theorem dX8_tells_81 : decode cX8_tells 81 = .ok (.getfield 175, 3) := by decide +kernel
theorem dX8_tells_84 : decode cX8_tells 84 = .ok (.if_icmp .ge 55, 3) := by decide +kernel
theorem dX8_tells_87 : decode cX8_tells 87 = .ok (.aload_n 3, 1) := by decide +kernel
theorem dX8_tells_88 : decode cX8_tells 88 = .ok (.iload 8, 2) := by decide +kernel
theorem dX8_tells_90 : decode cX8_tells 90 = .ok (.baload, 1) := by decide +kernel
theorem dX8_tells_91 : decode cX8_tells 91 = .ok (.ifCond .eq 7, 3) := by decide +kernel
theorem dX8_tells_94 : decode cX8_tells 94 = .ok (.iconst 0, 1) := by decide +kernel
theorem dX8_tells_95 : decode cX8_tells 95 = .ok (.goto 18, 3) := by decide +kernel
theorem dX8_tells_98 : decode cX8_tells 98 = .ok (.aload_n 0, 1) := by decide +kernel
theorem dX8_tells_99 : decode cX8_tells 99 = .ok (.iload 8, 2) := by decide +kernel
theorem dX8_tells_101 : decode cX8_tells 101 = .ok (.iload_n 2, 1) := by decide +kernel
theorem dX8_tells_102 : decode cX8_tells 102 = .ok (.invokevirtual 188, 3) := by decide +kernel
theorem dX8_tells_105 : decode cX8_tells 105 = .ok (.aload_n 0, 1) := by decide +kernel
theorem dX8_tells_106 : decode cX8_tells 106 = .ok (.iload 8, 2) := by decide +kernel
theorem dX8_tells_108 : decode cX8_tells 108 = .ok (.iload_n 1, 1) := by decide +kernel
theorem dX8_tells_109 : decode cX8_tells 109 = .ok (.invokevirtual 188, 3) := by decide +kernel
theorem dX8_tells_112 : decode cX8_tells 112 = .ok (.isub, 1) := by decide +kernel
theorem dX8_tells_113 : decode cX8_tells 113 = .ok (.istore 9, 2) := by decide +kernel
theorem dX8_tells_115 : decode cX8_tells 115 = .ok (.iload 9, 2) := by decide +kernel
theorem dX8_tells_117 : decode cX8_tells 117 = .ok (.iload 7, 2) := by decide +kernel
theorem dX8_tells_119 : decode cX8_tells 119 = .ok (.if_icmp .gt 6, 3) := by decide +kernel
theorem dX8_tells_122 : decode cX8_tells 122 = .ok (.goto 11, 3) := by decide +kernel
theorem dX8_tells_125 : decode cX8_tells 125 = .ok (.iload 9, 2) := by decide +kernel
theorem dX8_tells_127 : decode cX8_tells 127 = .ok (.istore 7, 2) := by decide +kernel
theorem dX8_tells_129 : decode cX8_tells 129 = .ok (.iload 8, 2) := by decide +kernel
theorem dX8_tells_131 : decode cX8_tells 131 = .ok (.istore 6, 2) := by decide +kernel
theorem dX8_tells_133 : decode cX8_tells 133 = .ok (.iinc 8 1, 3) := by decide +kernel
theorem dX8_tells_136 : decode cX8_tells 136 = .ok (.goto (-58), 3) := by decide +kernel
theorem dX8_tells_139 : decode cX8_tells 139 = .ok (.iload 6, 2) := by decide +kernel
theorem dX8_tells_141 : decode cX8_tells 141 = .ok (.iconst (-1), 1) := by decide +kernel
theorem dX8_tells_142 : decode cX8_tells 142 = .ok (.if_icmp .ne 10, 3) := by decide +kernel
theorem dX8_tells_145 : decode cX8_tells 145 = .ok (.aload_n 0, 1) := by decide +kernel
theorem dX8_tells_146 : decode cX8_tells 146 = .ok (.bipush (-2), 2) := by decide +kernel
theorem dX8_tells_148 : decode cX8_tells 148 = .ok (.invokevirtual 139, 3) := by decide +kernel
theorem dX8_tells_151 : decode cX8_tells 151 = .ok (.ireturn, 1) := by decide +kernel
theorem dX8_tells_152 : decode cX8_tells 152 = .ok (.aload_n 3, 1) := by decide +kernel
theorem dX8_tells_153 : decode cX8_tells 153 = .ok (.iload 6, 2) := by decide +kernel
theorem dX8_tells_155 : decode cX8_tells 155 = .ok (.iconst 1, 1) := by decide +kernel
theorem dX8_tells_156 : decode cX8_tells 156 = .ok (.bastore, 1) := by decide +kernel
theorem dX8_tells_157 : decode cX8_tells 157 = .ok (.iload 4, 2) := by decide +kernel
theorem dX8_tells_159 : decode cX8_tells 159 = .ok (.iload 7, 2) := by decide +kernel
theorem dX8_tells_161 : decode cX8_tells 161 = .ok (.iadd, 1) := by decide +kernel
theorem dX8_tells_162 : decode cX8_tells 162 = .ok (.istore 4, 2) := by decide +kernel
theorem dX8_tells_164 : decode cX8_tells 164 = .ok (.iinc 5 1, 3) := by decide +kernel
theorem dX8_tells_167 : decode cX8_tells 167 = .ok (.goto (-107), 3) := by decide +kernel
theorem dX8_tells_170 : decode cX8_tells 170 = .ok (.aload_n 0, 1) := by decide +kernel
theorem dX8_tells_171 : decode cX8_tells 171 = .ok (.iconst 0, 1) := by decide +kernel
theorem dX8_tells_172 : decode cX8_tells 172 = .ok (.putfield 213, 3) := by decide +kernel
theorem dX8_tells_175 : decode cX8_tells 175 = .ok (.iconst 0, 1) := by decide +kernel
theorem dX8_tells_176 : decode cX8_tells 176 = .ok (.istore 6, 2) := by decide +kernel
theorem dX8_tells_178 : decode cX8_tells 178 = .ok (.iload 6, 2) := by decide +kernel
theorem dX8_tells_180 : decode cX8_tells 180 = .ok (.aload_n 0, 1) := by decide +kernel
theorem dX8_tells_181 : decode cX8_tells 181 = .ok (.getfield 175, 3) := by decide +kernel
theorem dX8_tells_184 : decode cX8_tells 184 = .ok (.if_icmp .ge 40, 3) := by decide +kernel
theorem dX8_tells_187 : decode cX8_tells 187 = .ok (.aload_n 3, 1) := by decide +kernel
theorem dX8_tells_188 : decode cX8_tells 188 = .ok (.iload 6, 2) := by decide +kernel
theorem dX8_tells_190 : decode cX8_tells 190 = .ok (.baload, 1) := by decide +kernel
theorem dX8_tells_191 : decode cX8_tells 191 = .ok (.ifCond .ne 6, 3) := by decide +kernel
theorem dX8_tells_194 : decode cX8_tells 194 = .ok (.goto 24, 3) := by decide +kernel
theorem dX8_tells_197 : decode cX8_tells 197 = .ok (.aload_n 0, 1) := by decide +kernel
theorem dX8_tells_198 : decode cX8_tells 198 = .ok (.getfield 94, 3) := by decide +kernel
theorem dX8_tells_201 : decode cX8_tells 201 = .ok (.aload_n 0, 1) := by decide +kernel
theorem dX8_tells_202 : decode cX8_tells 202 = .ok (.getfield 213, 3) := by decide +kernel
theorem dX8_tells_205 : decode cX8_tells 205 = .ok (.iload 6, 2) := by decide +kernel
theorem dX8_tells_207 : decode cX8_tells 207 = .ok (.iastore, 1) := by decide +kernel
theorem dX8_tells_208 : decode cX8_tells 208 = .ok (.aload_n 0, 1) := by decide +kernel
theorem dX8_tells_209 : decode cX8_tells 209 = .ok (.dup, 1) := by decide +kernel
theorem dX8_tells_210 : decode cX8_tells 210 = .ok (.getfield 213, 3) := by decide +kernel
theorem dX8_tells_213 : decode cX8_tells 213 = .ok (.iconst 1, 1) := by decide +kernel
theorem dX8_tells_214 : decode cX8_tells 214 = .ok (.iadd, 1) := by decide +kernel
theorem dX8_tells_215 : decode cX8_tells 215 = .ok (.putfield 213, 3) := by decide +kernel
theorem dX8_tells_218 : decode cX8_tells 218 = .ok (.iinc 6 1, 3) := by decide +kernel
theorem dX8_tells_221 : decode cX8_tells 221 = .ok (.goto (-43), 3) := by decide +kernel
theorem dX8_tells_224 : decode cX8_tells 224 = .ok (.aload_n 0, 1) := by decide +kernel
theorem dX8_tells_225 : decode cX8_tells 225 = .ok (.iload 5, 2) := by decide +kernel
theorem dX8_tells_227 : decode cX8_tells 227 = .ok (.invokevirtual 139, 3) := by decide +kernel
theorem dX8_tells_230 : decode cX8_tells 230 = .ok (.ireturn, 1) := by decide +kernel
theorem dX8_telling_0 : decode cX8_telling 0 = .ok (.aload_n 0, 1) := by decide +kernel
theorem dX8_telling_1 : decode cX8_telling 1 = .ok (.iload_n 1, 1) := by decide +kernel
theorem dX8_telling_2 : decode cX8_telling 2 = .ok (.ifCond .lt 11, 3) := by decide +kernel
theorem dX8_telling_5 : decode cX8_telling 5 = .ok (.iload_n 1, 1) := by decide +kernel
theorem dX8_telling_6 : decode cX8_telling 6 = .ok (.aload_n 0, 1) := by decide +kernel
theorem dX8_telling_7 : decode cX8_telling 7 = .ok (.getfield 213, 3) := by decide +kernel
theorem dX8_telling_10 : decode cX8_telling 10 = .ok (.if_icmp .lt 7, 3) := by decide +kernel
theorem dX8_telling_13 : decode cX8_telling 13 = .ok (.iconst 1, 1) := by decide +kernel
theorem dX8_telling_14 : decode cX8_telling 14 = .ok (.goto 4, 3) := by decide +kernel
theorem dX8_telling_17 : decode cX8_telling 17 = .ok (.iconst 0, 1) := by decide +kernel
theorem dX8_telling_18 : decode cX8_telling 18 = .ok (.putfield 97, 3) := by decide +kernel
theorem dX8_telling_21 : decode cX8_telling 21 = .ok (.aload_n 0, 1) := by decide +kernel
theorem dX8_telling_22 : decode cX8_telling 22 = .ok (.getfield 97, 3) := by decide +kernel
theorem dX8_telling_25 : decode cX8_telling 25 = .ok (.ifCond .le 7, 3) := by decide +kernel
theorem dX8_telling_28 : decode cX8_telling 28 = .ok (.iconst 0, 1) := by decide +kernel
theorem dX8_telling_29 : decode cX8_telling 29 = .ok (.goto 9, 3) := by decide +kernel
theorem dX8_telling_32 : decode cX8_telling 32 = .ok (.aload_n 0, 1) := by decide +kernel
theorem dX8_telling_33 : decode cX8_telling 33 = .ok (.getfield 94, 3) := by decide +kernel
theorem dX8_telling_36 : decode cX8_telling 36 = .ok (.iload_n 1, 1) := by decide +kernel
theorem dX8_telling_37 : decode cX8_telling 37 = .ok (.iaload, 1) := by decide +kernel
theorem dX8_telling_38 : decode cX8_telling 38 = .ok (.ireturn, 1) := by decide +kernel
theorem dX8_count_0 : decode cX8_count 0 = .ok (.aload_n 0, 1) := by decide +kernel
theorem dX8_count_1 : decode cX8_count 1 = .ok (.iconst 0, 1) := by decide +kernel
theorem dX8_count_2 : decode cX8_count 2 = .ok (.putfield 97, 3) := by decide +kernel
theorem dX8_count_5 : decode cX8_count 5 = .ok (.iload_n 1, 1) := by decide +kernel
theorem dX8_count_6 : decode cX8_count 6 = .ok (.tableswitch 77 0 6 #[42, 47, 52, 57, 62, 67, 72], 42) := by decide +kernel
theorem dX8_count_48 : decode cX8_count 48 = .ok (.aload_n 0, 1) := by decide +kernel
theorem dX8_count_49 : decode cX8_count 49 = .ok (.getfield 133, 3) := by decide +kernel
theorem dX8_count_52 : decode cX8_count 52 = .ok (.ireturn, 1) := by decide +kernel
theorem dX8_count_53 : decode cX8_count 53 = .ok (.aload_n 0, 1) := by decide +kernel
theorem dX8_count_54 : decode cX8_count 54 = .ok (.getfield 152, 3) := by decide +kernel
theorem dX8_count_57 : decode cX8_count 57 = .ok (.ireturn, 1) := by decide +kernel
theorem dX8_count_58 : decode cX8_count 58 = .ok (.aload_n 0, 1) := by decide +kernel
theorem dX8_count_59 : decode cX8_count 59 = .ok (.getfield 130, 3) := by decide +kernel
theorem dX8_count_62 : decode cX8_count 62 = .ok (.ireturn, 1) := by decide +kernel
theorem dX8_count_63 : decode cX8_count 63 = .ok (.aload_n 0, 1) := by decide +kernel
theorem dX8_count_64 : decode cX8_count 64 = .ok (.getfield 120, 3) := by decide +kernel
theorem dX8_count_67 : decode cX8_count 67 = .ok (.ireturn, 1) := by decide +kernel
theorem dX8_count_68 : decode cX8_count 68 = .ok (.aload_n 0, 1) := by decide +kernel
theorem dX8_count_69 : decode cX8_count 69 = .ok (.getfield 175, 3) := by decide +kernel
theorem dX8_count_72 : decode cX8_count 72 = .ok (.ireturn, 1) := by decide +kernel
theorem dX8_count_73 : decode cX8_count 73 = .ok (.aload_n 0, 1) := by decide +kernel
theorem dX8_count_74 : decode cX8_count 74 = .ok (.getfield 172, 3) := by decide +kernel
theorem dX8_count_77 : decode cX8_count 77 = .ok (.ireturn, 1) := by decide +kernel
theorem dX8_count_78 : decode cX8_count 78 = .ok (.aload_n 0, 1) := by decide +kernel
theorem dX8_count_79 : decode cX8_count 79 = .ok (.getfield 103, 3) := by decide +kernel
theorem dX8_count_82 : decode cX8_count 82 = .ok (.ireturn, 1) := by decide +kernel
theorem dX8_count_83 : decode cX8_count 83 = .ok (.iconst (-1), 1) := by decide +kernel
theorem dX8_count_84 : decode cX8_count 84 = .ok (.ireturn, 1) := by decide +kernel
theorem dX8_trouble_0 : decode cX8_trouble 0 = .ok (.aload_n 0, 1) := by decide +kernel
theorem dX8_trouble_1 : decode cX8_trouble 1 = .ok (.iconst 0, 1) := by decide +kernel
theorem dX8_trouble_2 : decode cX8_trouble 2 = .ok (.putfield 97, 3) := by decide +kernel
theorem dX8_trouble_5 : decode cX8_trouble 5 = .ok (.aload_n 0, 1) := by decide +kernel
theorem dX8_trouble_6 : decode cX8_trouble 6 = .ok (.getfield 100, 3) := by decide +kernel
theorem dX8_trouble_9 : decode cX8_trouble 9 = .ok (.ireturn, 1) := by decide +kernel
theorem dJ6_bitCount_0f7a4_0 : decode cJ6_bitCount_0f7a4 0 = .ok (.iload_n 0, 1) := by decide +kernel
theorem dJ6_bitCount_0f7a4_1 : decode cJ6_bitCount_0f7a4 1 = .ok (.iload_n 0, 1) := by decide +kernel
theorem dJ6_bitCount_0f7a4_2 : decode cJ6_bitCount_0f7a4 2 = .ok (.iconst 1, 1) := by decide +kernel
theorem dJ6_bitCount_0f7a4_3 : decode cJ6_bitCount_0f7a4 3 = .ok (.iushr, 1) := by decide +kernel
theorem dJ6_bitCount_0f7a4_4 : decode cJ6_bitCount_0f7a4 4 = .ok (.ldc_w 265, 3) := by decide +kernel
theorem dJ6_bitCount_0f7a4_7 : decode cJ6_bitCount_0f7a4 7 = .ok (.iand, 1) := by decide +kernel
theorem dJ6_bitCount_0f7a4_8 : decode cJ6_bitCount_0f7a4 8 = .ok (.isub, 1) := by decide +kernel
theorem dJ6_bitCount_0f7a4_9 : decode cJ6_bitCount_0f7a4 9 = .ok (.istore_n 0, 1) := by decide +kernel
theorem dJ6_bitCount_0f7a4_10 : decode cJ6_bitCount_0f7a4 10 = .ok (.iload_n 0, 1) := by decide +kernel
theorem dJ6_bitCount_0f7a4_11 : decode cJ6_bitCount_0f7a4 11 = .ok (.ldc_w 266, 3) := by decide +kernel
theorem dJ6_bitCount_0f7a4_14 : decode cJ6_bitCount_0f7a4 14 = .ok (.iand, 1) := by decide +kernel
theorem dJ6_bitCount_0f7a4_15 : decode cJ6_bitCount_0f7a4 15 = .ok (.iload_n 0, 1) := by decide +kernel
theorem dJ6_bitCount_0f7a4_16 : decode cJ6_bitCount_0f7a4 16 = .ok (.iconst 2, 1) := by decide +kernel
theorem dJ6_bitCount_0f7a4_17 : decode cJ6_bitCount_0f7a4 17 = .ok (.iushr, 1) := by decide +kernel
theorem dJ6_bitCount_0f7a4_18 : decode cJ6_bitCount_0f7a4 18 = .ok (.ldc_w 266, 3) := by decide +kernel
theorem dJ6_bitCount_0f7a4_21 : decode cJ6_bitCount_0f7a4 21 = .ok (.iand, 1) := by decide +kernel
theorem dJ6_bitCount_0f7a4_22 : decode cJ6_bitCount_0f7a4 22 = .ok (.iadd, 1) := by decide +kernel
theorem dJ6_bitCount_0f7a4_23 : decode cJ6_bitCount_0f7a4 23 = .ok (.istore_n 0, 1) := by decide +kernel
theorem dJ6_bitCount_0f7a4_24 : decode cJ6_bitCount_0f7a4 24 = .ok (.iload_n 0, 1) := by decide +kernel
theorem dJ6_bitCount_0f7a4_25 : decode cJ6_bitCount_0f7a4 25 = .ok (.iload_n 0, 1) := by decide +kernel
theorem dJ6_bitCount_0f7a4_26 : decode cJ6_bitCount_0f7a4 26 = .ok (.iconst 4, 1) := by decide +kernel
theorem dJ6_bitCount_0f7a4_27 : decode cJ6_bitCount_0f7a4 27 = .ok (.iushr, 1) := by decide +kernel
theorem dJ6_bitCount_0f7a4_28 : decode cJ6_bitCount_0f7a4 28 = .ok (.iadd, 1) := by decide +kernel
theorem dJ6_bitCount_0f7a4_29 : decode cJ6_bitCount_0f7a4 29 = .ok (.ldc_w 267, 3) := by decide +kernel
theorem dJ6_bitCount_0f7a4_32 : decode cJ6_bitCount_0f7a4 32 = .ok (.iand, 1) := by decide +kernel
theorem dJ6_bitCount_0f7a4_33 : decode cJ6_bitCount_0f7a4 33 = .ok (.istore_n 0, 1) := by decide +kernel
theorem dJ6_bitCount_0f7a4_34 : decode cJ6_bitCount_0f7a4 34 = .ok (.iload_n 0, 1) := by decide +kernel
theorem dJ6_bitCount_0f7a4_35 : decode cJ6_bitCount_0f7a4 35 = .ok (.iload_n 0, 1) := by decide +kernel
theorem dJ6_bitCount_0f7a4_36 : decode cJ6_bitCount_0f7a4 36 = .ok (.bipush 8, 2) := by decide +kernel
theorem dJ6_bitCount_0f7a4_38 : decode cJ6_bitCount_0f7a4 38 = .ok (.iushr, 1) := by decide +kernel
theorem dJ6_bitCount_0f7a4_39 : decode cJ6_bitCount_0f7a4 39 = .ok (.iadd, 1) := by decide +kernel
theorem dJ6_bitCount_0f7a4_40 : decode cJ6_bitCount_0f7a4 40 = .ok (.istore_n 0, 1) := by decide +kernel
theorem dJ6_bitCount_0f7a4_41 : decode cJ6_bitCount_0f7a4 41 = .ok (.iload_n 0, 1) := by decide +kernel
theorem dJ6_bitCount_0f7a4_42 : decode cJ6_bitCount_0f7a4 42 = .ok (.iload_n 0, 1) := by decide +kernel
theorem dJ6_bitCount_0f7a4_43 : decode cJ6_bitCount_0f7a4 43 = .ok (.bipush 16, 2) := by decide +kernel
theorem dJ6_bitCount_0f7a4_45 : decode cJ6_bitCount_0f7a4 45 = .ok (.iushr, 1) := by decide +kernel
theorem dJ6_bitCount_0f7a4_46 : decode cJ6_bitCount_0f7a4 46 = .ok (.iadd, 1) := by decide +kernel
theorem dJ6_bitCount_0f7a4_47 : decode cJ6_bitCount_0f7a4 47 = .ok (.istore_n 0, 1) := by decide +kernel
theorem dJ6_bitCount_0f7a4_48 : decode cJ6_bitCount_0f7a4 48 = .ok (.iload_n 0, 1) := by decide +kernel
theorem dJ6_bitCount_0f7a4_49 : decode cJ6_bitCount_0f7a4 49 = .ok (.bipush 63, 2) := by decide +kernel
theorem dJ6_bitCount_0f7a4_51 : decode cJ6_bitCount_0f7a4 51 = .ok (.iand, 1) := by decide +kernel
theorem dJ6_bitCount_0f7a4_52 : decode cJ6_bitCount_0f7a4 52 = .ok (.ireturn, 1) := by decide +kernel
theorem dJ9_max_7cf53_0 : decode cJ9_max_7cf53 0 = .ok (.iload_n 0, 1) := by decide +kernel
theorem dJ9_max_7cf53_1 : decode cJ9_max_7cf53 1 = .ok (.iload_n 1, 1) := by decide +kernel
theorem dJ9_max_7cf53_2 : decode cJ9_max_7cf53 2 = .ok (.if_icmp .lt 7, 3) := by decide +kernel
theorem dJ9_max_7cf53_5 : decode cJ9_max_7cf53 5 = .ok (.iload_n 0, 1) := by decide +kernel
theorem dJ9_max_7cf53_6 : decode cJ9_max_7cf53 6 = .ok (.goto 4, 3) := by decide +kernel
theorem dJ9_max_7cf53_9 : decode cJ9_max_7cf53 9 = .ok (.iload_n 1, 1) := by decide +kernel
theorem dJ9_max_7cf53_10 : decode cJ9_max_7cf53 10 = .ok (.ireturn, 1) := by decide +kernel
theorem dJ9_min_7cf53_0 : decode cJ9_min_7cf53 0 = .ok (.iload_n 0, 1) := by decide +kernel
theorem dJ9_min_7cf53_1 : decode cJ9_min_7cf53 1 = .ok (.iload_n 1, 1) := by decide +kernel
theorem dJ9_min_7cf53_2 : decode cJ9_min_7cf53 2 = .ok (.if_icmp .gt 7, 3) := by decide +kernel
theorem dJ9_min_7cf53_5 : decode cJ9_min_7cf53 5 = .ok (.iload_n 0, 1) := by decide +kernel
theorem dJ9_min_7cf53_6 : decode cJ9_min_7cf53 6 = .ok (.goto 4, 3) := by decide +kernel
theorem dJ9_min_7cf53_9 : decode cJ9_min_7cf53 9 = .ok (.iload_n 1, 1) := by decide +kernel
theorem dJ9_min_7cf53_10 : decode cJ9_min_7cf53 10 = .ok (.ireturn, 1) := by decide +kernel
set_option maxRecDepth 20000 in
theorem ggL_telling_X7_telling : GoodIn wsL_telling wsX7_telling := goodIn_ca (goodIn_r _ [6, 7, 8, 9, 10, 11, 12, 13, 14, 15, 16, 17, 18, 19, 20, 21, 22, 23, 24, 25, 26, 27, 28, 29, 30, 31, 32] (by decide +kernel) (by decide +kernel)) (goodIn_sub (fun _ h => List.mem_cons_of_mem _ (List.mem_append_right _ h)) (by decide +kernel))
set_option maxRecDepth 20000 in
theorem gL_telling_X7_telling : GoodIn wsL_telling (wsV RL 7 RX7 yX7_telling wsX7_telling) := goodIn_app (goodIn_of _ (by decide +kernel)) ggL_telling_X7_telling
theorem dL_telling_0 : decode cL_telling 0 = .ok (.aload_n 2, 1) := by decide +kernel
theorem dL_telling_1 : decode cL_telling 1 = .ok (.iconst 0, 1) := by decide +kernel
theorem dL_telling_2 : decode cL_telling 2 = .ok (.aload_n 0, 1) := by decide +kernel
theorem dL_telling_3 : decode cL_telling 3 = .ok (.iload_n 1, 1) := by decide +kernel
theorem dL_telling_4 : decode cL_telling 4 = .ok (.invokevirtual 7, 3) := by decide +kernel
theorem dL_telling_7 : decode cL_telling 7 = .ok (.i2l, 1) := by decide +kernel
theorem dL_telling_8 : decode cL_telling 8 = .ok (.lastore, 1) := by decide +kernel
theorem dL_telling_9 : decode cL_telling 9 = .ok (.goto 6, 3) := by decide +kernel
theorem dL_telling_12 : decode cL_telling 12 = .ok (.astore_n 3, 1) := by decide +kernel
theorem dL_telling_13 : decode cL_telling 13 = .ok (.iconst 1, 1) := by decide +kernel
theorem dL_telling_14 : decode cL_telling 14 = .ok (.ireturn, 1) := by decide +kernel
theorem dL_telling_15 : decode cL_telling 15 = .ok (.iconst 0, 1) := by decide +kernel
theorem dL_telling_16 : decode cL_telling 16 = .ok (.ireturn, 1) := by decide +kernel
set_option maxRecDepth 100000 in
theorem ggL_law_X7_init : GoodIn wsL_law wsX7_init := goodIn_c lwLL_in _ [(0, 9), (0, 10), (0, 11), (0, 12), (0, 13), (0, 14), (0, 15), (0, 16), (0, 17), (0, 18), (0, 19), (0, 20), (0, 21), (0, 22), (0, 23), (1, 0), (1, 1), (1, 2), (1, 3), (1, 4), (1, 5), (1, 6), (1, 7), (1, 8), (1, 9), (1, 10), (1, 11), (1, 12), (1, 13), (1, 14), (1, 15), (1, 16), (1, 17), (1, 18), (1, 19), (1, 20), (1, 21), (1, 22), (1, 23), (2, 0), (2, 1), (2, 2), (2, 3), (2, 4), (2, 5), (2, 6), (2, 7), (2, 8), (2, 9), (2, 10), (2, 11), (2, 12), (2, 13), (2, 14), (2, 15), (2, 16), (2, 17), (2, 18), (2, 19), (2, 20), (2, 21), (2, 22), (2, 23), (3, 0), (3, 1), (3, 2), (3, 3), (3, 4), (3, 5), (3, 6), (3, 7), (3, 8), (3, 9), (3, 10), (3, 11), (3, 12), (3, 13), (3, 14), (3, 15), (3, 16), (3, 17), (3, 18), (3, 19), (3, 20), (3, 21), (3, 22), (3, 23), (4, 0), (4, 1), (4, 2), (4, 3), (4, 4), (4, 5), (4, 6), (4, 7), (29, 0), (29, 1), (29, 2), (29, 3), (29, 4), (29, 5), (29, 6), (29, 7), (29, 8), (29, 9), (29, 10), (29, 11), (29, 12), (29, 13), (29, 14), (29, 15), (29, 16), (29, 17), (31, 0), (31, 1), (32, 0), (32, 1), (32, 2), (33, 0), (33, 1), (33, 2), (33, 3), (33, 4), (34, 0), (34, 1), (34, 2), (34, 3), (34, 4), (34, 5), (34, 6), (34, 7), (34, 8), (35, 0), (35, 1), (35, 2), (36, 0), (36, 1), (36, 2)] (by rfl) (by decide +kernel)
set_option maxRecDepth 20000 in
theorem gL_law_X7_init : GoodIn wsL_law (wsX7_init) := ggL_law_X7_init
set_option maxRecDepth 100000 in
theorem ggL_law_X8_init : GoodIn wsL_law wsX8_init := goodIn_c lwLL_in _ [(4, 10), (4, 11), (0, 11), (0, 12), (0, 13), (4, 12), (1, 4), (4, 13), (4, 14), (4, 6), (4, 15), (4, 16), (4, 17), (4, 18), (4, 19), (4, 20), (4, 21), (4, 22), (4, 23), (5, 0), (5, 1), (5, 2), (5, 3), (5, 4), (5, 5), (5, 6), (5, 7), (5, 8), (5, 9), (5, 10), (5, 11), (5, 12), (5, 13), (5, 14), (5, 15), (5, 16), (30, 0), (30, 1), (30, 2), (30, 3), (30, 4), (30, 5), (30, 6), (30, 7), (30, 8), (30, 9), (30, 10), (30, 11), (30, 12), (30, 13), (30, 14), (30, 15), (30, 16), (30, 17), (30, 18), (30, 19), (30, 20), (30, 21), (30, 22), (30, 23), (30, 24), (30, 25), (30, 26), (30, 27), (30, 28), (30, 29), (30, 30), (30, 31), (30, 32), (30, 33), (30, 34), (30, 35), (30, 36), (30, 37)] (by rfl) (by decide +kernel)
set_option maxRecDepth 20000 in
theorem gL_law_X8_init : GoodIn wsL_law (wsX8_init) := ggL_law_X8_init
set_option maxRecDepth 100000 in
theorem ggL_law_X7_feed : GoodIn wsL_law wsX7_feed := goodIn_c lwLL_in _ [(5, 20), (0, 15), (5, 21), (5, 22), (5, 23), (0, 2), (6, 0), (0, 14), (6, 1), (6, 2), (6, 3), (29, 0), (29, 1), (29, 2), (29, 3), (29, 4), (29, 5), (29, 6), (29, 7), (29, 8), (29, 9), (29, 10), (29, 11), (29, 12), (29, 13), (29, 14), (29, 15), (29, 16), (29, 17)] (by rfl) (by decide +kernel)
set_option maxRecDepth 100000 in
theorem gL_law_X7_feed : GoodIn wsL_law (wsV RL 19 RX7 yX7_feed wsX7_feed) := goodIn_app (goodIn_c lwLL_in _ [(5, 17), (5, 18), (5, 19), (0, 2)] (by rfl) (by decide +kernel)) ggL_law_X7_feed
set_option maxRecDepth 100000 in
theorem ggL_law_X8_feed : GoodIn wsL_law wsX8_feed := goodIn_c lwLL_in _ [(6, 7), (6, 8), (6, 9), (4, 12), (30, 0), (30, 1), (30, 2), (30, 3), (30, 4), (30, 5), (30, 6), (30, 7), (30, 8), (30, 9), (30, 10), (30, 11), (30, 12), (30, 13), (30, 14), (30, 15), (30, 16), (30, 17), (30, 18), (30, 19), (30, 20), (30, 21), (30, 22), (30, 23), (30, 24), (30, 25), (30, 26), (30, 27), (30, 28), (30, 29), (30, 30), (30, 31), (30, 32), (30, 33), (30, 34), (30, 35), (30, 36), (30, 37)] (by rfl) (by decide +kernel)
set_option maxRecDepth 100000 in
theorem gL_law_X8_feed : GoodIn wsL_law (wsV RL 23 RX8 yX8_feed wsX8_feed) := goodIn_app (goodIn_c lwLL_in _ [(6, 4), (6, 5), (6, 6), (0, 5)] (by rfl) (by decide +kernel)) ggL_law_X8_feed
set_option maxRecDepth 100000 in
theorem ggL_law_X7_tongue : GoodIn wsL_law wsX7_tongue := goodIn_c lwLL_in _ [(6, 13), (0, 19), (6, 14), (6, 15), (6, 16), (6, 17), (0, 2), (6, 18), (2, 3), (6, 19), (6, 20), (6, 21), (6, 22), (29, 0), (29, 1), (29, 2), (29, 3), (29, 4), (29, 5), (29, 6), (29, 7), (29, 8), (29, 9), (29, 10), (29, 11), (29, 12), (29, 13), (29, 14), (29, 15), (29, 16), (29, 17), (31, 0), (31, 1)] (by rfl) (by decide +kernel)
set_option maxRecDepth 100000 in
theorem gL_law_X7_tongue : GoodIn wsL_law (wsV RL 24 RX7 yX7_tongue wsX7_tongue) := goodIn_app (goodIn_c lwLL_in _ [(6, 10), (6, 11), (6, 12), (0, 2)] (by rfl) (by decide +kernel)) ggL_law_X7_tongue
set_option maxRecDepth 100000 in
theorem ggL_law_X8_tongue : GoodIn wsL_law wsX8_tongue := goodIn_c lwLL_in _ [(7, 2), (6, 8), (7, 3), (7, 4), (7, 5), (7, 6), (0, 5), (7, 7), (7, 8), (7, 9), (7, 10), (7, 11), (7, 12), (30, 0), (30, 1), (30, 2), (30, 3), (30, 4), (30, 5), (30, 6), (30, 7), (30, 8), (30, 9), (30, 10), (30, 11), (30, 12), (30, 13), (30, 14), (30, 15), (30, 16), (30, 17), (30, 18), (30, 19), (30, 20), (30, 21), (30, 22), (30, 23), (30, 24), (30, 25), (30, 26), (30, 27), (30, 28), (30, 29), (30, 30), (30, 31), (30, 32), (30, 33), (30, 34), (30, 35), (30, 36), (30, 37)] (by rfl) (by decide +kernel)
set_option maxRecDepth 100000 in
theorem gL_law_X8_tongue : GoodIn wsL_law (wsV RL 28 RX8 yX8_tongue wsX8_tongue) := goodIn_app (goodIn_c lwLL_in _ [(6, 23), (7, 0), (7, 1), (0, 5)] (by rfl) (by decide +kernel)) ggL_law_X8_tongue
set_option maxRecDepth 100000 in
theorem ggL_law_X7_learn : GoodIn wsL_law wsX7_learn := goodIn_c lwLL_in _ [(7, 16), (0, 19), (0, 20), (7, 17), (7, 18), (0, 23), (0, 21), (7, 19), (0, 22), (7, 20), (7, 21), (7, 22), (7, 23), (0, 18), (8, 0), (2, 8), (6, 15), (6, 16), (6, 17), (0, 2), (6, 18), (2, 3), (8, 1), (8, 2), (8, 3), (8, 4), (0, 15), (8, 5), (8, 6), (8, 7), (8, 8), (1, 13), (8, 9), (8, 10), (8, 11), (1, 11), (8, 12), (3, 5), (3, 6), (8, 13), (8, 14), (8, 15), (8, 16), (0, 14), (8, 17), (8, 18), (8, 19), (8, 20), (3, 2), (8, 21), (8, 22), (8, 23), (9, 0), (9, 1), (9, 2), (9, 3), (9, 4), (3, 3), (3, 4), (9, 5), (9, 6), (9, 7), (9, 8), (9, 9), (9, 10), (9, 11), (9, 12), (9, 13), (9, 14), (9, 15), (9, 16), (2, 15), (2, 16), (2, 17), (9, 17), (9, 18), (9, 19), (9, 20), (9, 21), (9, 22), (9, 23), (10, 0), (10, 1), (10, 2), (0, 13), (10, 3), (10, 4), (10, 5), (10, 6), (10, 7), (10, 8), (10, 9), (1, 6), (10, 10), (10, 11), (10, 12), (10, 13), (10, 14), (10, 15), (10, 16), (1, 2), (10, 17), (2, 13), (10, 18), (10, 19), (10, 20), (10, 21), (2, 22), (10, 22), (10, 23), (2, 21), (11, 0), (11, 1), (11, 2), (11, 3), (11, 4), (0, 11), (0, 12), (11, 5), (11, 6), (11, 7), (11, 8), (11, 9), (11, 10), (11, 11), (2, 7), (6, 19), (6, 20), (6, 21), (6, 22), (29, 0), (29, 1), (29, 2), (29, 3), (29, 4), (29, 5), (29, 6), (29, 7), (29, 8), (29, 9), (29, 10), (29, 11), (29, 12), (29, 13), (29, 14), (29, 15), (29, 16), (29, 17), (37, 0), (37, 1), (37, 2), (31, 0), (31, 1), (33, 0), (33, 1), (33, 2), (33, 3), (33, 4), (32, 0), (32, 1), (32, 2)] (by rfl) (by decide +kernel)
set_option maxRecDepth 100000 in
theorem gL_law_X7_learn : GoodIn wsL_law (wsV RL 29 RX7 yX7_learn wsX7_learn) := goodIn_app (goodIn_c lwLL_in _ [(7, 13), (7, 14), (7, 15), (0, 2)] (by rfl) (by decide +kernel)) ggL_law_X7_learn
set_option maxRecDepth 100000 in
theorem ggL_law_X8_learn : GoodIn wsL_law wsX8_learn := goodIn_c lwLL_in _ [(11, 15), (6, 8), (6, 9), (4, 12), (11, 16), (4, 15), (4, 13), (4, 14), (5, 3), (4, 22), (11, 17), (4, 23), (5, 0), (11, 18), (11, 19), (11, 20), (0, 5), (11, 21), (7, 3), (7, 4), (7, 5), (7, 6), (7, 7), (7, 8), (11, 22), (11, 23), (12, 0), (12, 1), (12, 2), (12, 3), (12, 4), (12, 5), (12, 6), (12, 7), (12, 8), (12, 9), (12, 10), (12, 11), (12, 12), (12, 13), (12, 14), (12, 15), (12, 16), (4, 17), (4, 20), (12, 17), (12, 18), (12, 19), (12, 20), (2, 15), (2, 16), (2, 17), (12, 21), (12, 22), (12, 23), (13, 0), (13, 1), (13, 2), (13, 3), (4, 21), (7, 9), (7, 10), (7, 11), (7, 12), (30, 0), (30, 1), (30, 2), (30, 3), (30, 4), (30, 5), (30, 6), (30, 7), (30, 8), (30, 9), (30, 10), (30, 11), (30, 12), (30, 13), (30, 14), (30, 15), (30, 16), (30, 17), (30, 18), (30, 19), (30, 20), (30, 21), (30, 22), (30, 23), (30, 24), (30, 25), (30, 26), (30, 27), (30, 28), (30, 29), (30, 30), (30, 31), (30, 32), (30, 33), (30, 34), (30, 35), (30, 36), (30, 37)] (by rfl) (by decide +kernel)
set_option maxRecDepth 100000 in
theorem gL_law_X8_learn : GoodIn wsL_law (wsV RL 33 RX8 yX8_learn wsX8_learn) := goodIn_app (goodIn_c lwLL_in _ [(11, 12), (11, 13), (11, 14), (0, 5)] (by rfl) (by decide +kernel)) ggL_law_X8_learn
set_option maxRecDepth 100000 in
theorem ggL_law_X7_forget : GoodIn wsL_law wsX7_forget := goodIn_c lwLL_in _ [(13, 7), (0, 21), (0, 19), (13, 8), (7, 19), (0, 22), (13, 9), (13, 10), (13, 11), (0, 2), (13, 12), (7, 20), (6, 15), (6, 16), (6, 17), (6, 18), (2, 3), (11, 8), (11, 9), (11, 10), (0, 18), (11, 11), (2, 7), (6, 19), (6, 20), (6, 21), (6, 22), (29, 0), (29, 1), (29, 2), (29, 3), (29, 4), (29, 5), (29, 6), (29, 7), (29, 8), (29, 9), (29, 10), (29, 11), (29, 12), (29, 13), (29, 14), (29, 15), (29, 16), (29, 17), (37, 0), (37, 1), (37, 2), (31, 0), (31, 1)] (by rfl) (by decide +kernel)
set_option maxRecDepth 100000 in
theorem gL_law_X7_forget : GoodIn wsL_law (wsV RL 34 RX7 yX7_forget wsX7_forget) := goodIn_app (goodIn_c lwLL_in _ [(13, 4), (13, 5), (13, 6), (0, 2)] (by rfl) (by decide +kernel)) ggL_law_X7_forget
set_option maxRecDepth 100000 in
theorem ggL_law_X8_forget : GoodIn wsL_law wsX8_forget := goodIn_c lwLL_in _ [(13, 16), (6, 8), (11, 16), (4, 22), (7, 8), (4, 23), (5, 0), (5, 3), (13, 0), (13, 1), (13, 2), (0, 5), (13, 3), (4, 21), (30, 0), (30, 1), (30, 2), (30, 3), (30, 4), (30, 5), (30, 6), (30, 7), (30, 8), (30, 9), (30, 10), (30, 11), (30, 12), (30, 13), (30, 14), (30, 15), (30, 16), (30, 17), (30, 18), (30, 19), (30, 20), (30, 21), (30, 22), (30, 23), (30, 24), (30, 25), (30, 26), (30, 27), (30, 28), (30, 29), (30, 30), (30, 31), (30, 32), (30, 33), (30, 34), (30, 35), (30, 36), (30, 37)] (by rfl) (by decide +kernel)
set_option maxRecDepth 100000 in
theorem gL_law_X8_forget : GoodIn wsL_law (wsV RL 38 RX8 yX8_forget wsX8_forget) := goodIn_app (goodIn_c lwLL_in _ [(13, 13), (13, 14), (13, 15), (0, 5)] (by rfl) (by decide +kernel)) ggL_law_X8_forget
set_option maxRecDepth 100000 in
theorem ggL_law_X7_keyword : GoodIn wsL_law wsX7_keyword := goodIn_c lwLL_in _ [(13, 20), (0, 19), (1, 3), (1, 13), (1, 5), (7, 21), (7, 22), (7, 23), (0, 18), (8, 0), (2, 8), (6, 15), (6, 16), (6, 17), (0, 2), (6, 18), (2, 3), (8, 1), (8, 2), (8, 3), (8, 4), (0, 15), (13, 21), (13, 22), (13, 23), (14, 0), (10, 1), (8, 5), (8, 6), (8, 7), (8, 8), (8, 9), (8, 10), (8, 11), (1, 11), (8, 12), (3, 5), (3, 6), (8, 13), (8, 14), (8, 15), (8, 16), (0, 14), (8, 17), (8, 18), (8, 19), (8, 20), (3, 2), (8, 21), (8, 22), (8, 23), (9, 0), (9, 1), (9, 2), (9, 3), (9, 4), (3, 3), (3, 4), (9, 5), (9, 6), (9, 7), (9, 8), (9, 9), (9, 10), (9, 11), (9, 12), (9, 13), (9, 14), (9, 15), (9, 16), (2, 15), (2, 16), (2, 17), (10, 10), (10, 11), (10, 12), (10, 13), (10, 14), (10, 15), (10, 16), (1, 2), (10, 17), (2, 13), (10, 18), (10, 19), (10, 20), (10, 21), (2, 22), (10, 22), (10, 23), (2, 21), (11, 0), (14, 1), (14, 2), (14, 3), (14, 4), (14, 5), (14, 6), (14, 7), (14, 8), (14, 9), (14, 10), (14, 11), (14, 12), (6, 19), (6, 20), (6, 21), (6, 22), (29, 0), (29, 1), (29, 2), (29, 3), (29, 4), (29, 5), (29, 6), (29, 7), (29, 8), (29, 9), (29, 10), (29, 11), (29, 12), (29, 13), (29, 14), (29, 15), (29, 16), (29, 17), (31, 0), (31, 1), (33, 0), (33, 1), (33, 2), (33, 3), (33, 4), (32, 0), (32, 1), (32, 2)] (by rfl) (by decide +kernel)
set_option maxRecDepth 100000 in
theorem gL_law_X7_keyword : GoodIn wsL_law (wsV RL 39 RX7 yX7_keyword wsX7_keyword) := goodIn_app (goodIn_c lwLL_in _ [(13, 17), (13, 18), (13, 19), (0, 2)] (by rfl) (by decide +kernel)) ggL_law_X7_keyword
set_option maxRecDepth 100000 in
theorem ggL_law_X8_keyword : GoodIn wsL_law wsX8_keyword := goodIn_c lwLL_in _ [(14, 16), (6, 8), (6, 9), (4, 12), (4, 13), (4, 14), (4, 19), (14, 17), (4, 18), (4, 16), (11, 18), (11, 19), (11, 20), (0, 5), (11, 21), (7, 3), (7, 4), (7, 5), (7, 6), (7, 7), (7, 8), (11, 22), (11, 23), (12, 0), (12, 1), (14, 18), (14, 19), (14, 20), (14, 21), (4, 15), (12, 2), (12, 3), (12, 4), (12, 5), (12, 6), (12, 7), (12, 8), (12, 9), (12, 10), (12, 11), (14, 22), (14, 23), (15, 0), (15, 1), (12, 17), (12, 18), (12, 19), (12, 20), (2, 15), (2, 16), (2, 17), (12, 21), (12, 22), (12, 23), (7, 9), (7, 10), (7, 11), (7, 12), (30, 0), (30, 1), (30, 2), (30, 3), (30, 4), (30, 5), (30, 6), (30, 7), (30, 8), (30, 9), (30, 10), (30, 11), (30, 12), (30, 13), (30, 14), (30, 15), (30, 16), (30, 17), (30, 18), (30, 19), (30, 20), (30, 21), (30, 22), (30, 23), (30, 24), (30, 25), (30, 26), (30, 27), (30, 28), (30, 29), (30, 30), (30, 31), (30, 32), (30, 33), (30, 34), (30, 35), (30, 36), (30, 37)] (by rfl) (by decide +kernel)
set_option maxRecDepth 100000 in
theorem gL_law_X8_keyword : GoodIn wsL_law (wsV RL 42 RX8 yX8_keyword wsX8_keyword) := goodIn_app (goodIn_c lwLL_in _ [(14, 13), (14, 14), (14, 15), (0, 5)] (by rfl) (by decide +kernel)) ggL_law_X8_keyword
set_option maxRecDepth 100000 in
theorem ggL_law_X7_name : GoodIn wsL_law wsX7_name := goodIn_c lwLL_in _ [(15, 5), (1, 6), (1, 13), (15, 6), (8, 1), (8, 2), (8, 3), (0, 2), (8, 4), (0, 15), (13, 21), (13, 22), (13, 23), (14, 0), (10, 1), (8, 5), (8, 6), (8, 7), (8, 8), (8, 9), (8, 10), (8, 11), (1, 11), (8, 12), (3, 5), (3, 6), (8, 13), (8, 14), (8, 15), (8, 16), (0, 14), (8, 17), (8, 18), (8, 19), (8, 20), (3, 2), (8, 21), (8, 22), (8, 23), (9, 0), (9, 1), (9, 2), (9, 3), (9, 4), (3, 3), (3, 4), (9, 5), (9, 6), (9, 7), (9, 8), (9, 9), (9, 10), (9, 11), (9, 12), (9, 13), (9, 14), (9, 15), (9, 16), (2, 15), (2, 16), (2, 17), (10, 10), (10, 11), (10, 12), (10, 13), (6, 15), (6, 16), (6, 17), (6, 18), (2, 3), (10, 14), (10, 15), (10, 16), (1, 2), (10, 17), (2, 13), (10, 18), (10, 19), (10, 20), (10, 21), (2, 22), (10, 22), (10, 23), (2, 21), (11, 0), (14, 1), (14, 2), (14, 3), (14, 4), (14, 5), (6, 19), (6, 20), (6, 21), (6, 22), (29, 0), (29, 1), (29, 2), (29, 3), (29, 4), (29, 5), (29, 6), (29, 7), (29, 8), (29, 9), (29, 10), (29, 11), (29, 12), (29, 13), (29, 14), (29, 15), (29, 16), (29, 17), (32, 0), (32, 1), (32, 2), (33, 0), (33, 1), (33, 2), (33, 3), (33, 4)] (by rfl) (by decide +kernel)
set_option maxRecDepth 100000 in
theorem gL_law_X7_name : GoodIn wsL_law (wsV RL 43 RX7 yX7_name wsX7_name) := goodIn_app (goodIn_c lwLL_in _ [(15, 2), (15, 3), (15, 4), (0, 2)] (by rfl) (by decide +kernel)) ggL_law_X7_name
set_option maxRecDepth 100000 in
theorem ggL_law_X8_name : GoodIn wsL_law wsX8_name := goodIn_c lwLL_in _ [(15, 10), (6, 8), (6, 9), (4, 12), (4, 13), (4, 14), (12, 16), (4, 20), (4, 17), (11, 22), (11, 23), (12, 0), (0, 5), (12, 1), (7, 4), (7, 5), (7, 6), (7, 7), (7, 8), (14, 18), (14, 19), (14, 20), (14, 21), (4, 15), (12, 2), (12, 3), (12, 4), (12, 5), (12, 6), (12, 7), (12, 8), (12, 9), (12, 10), (12, 11), (12, 12), (12, 13), (12, 14), (12, 15), (12, 17), (12, 18), (12, 19), (12, 20), (2, 15), (2, 16), (2, 17), (12, 21), (12, 22), (12, 23), (7, 9), (7, 10), (7, 11), (7, 12), (30, 0), (30, 1), (30, 2), (30, 3), (30, 4), (30, 5), (30, 6), (30, 7), (30, 8), (30, 9), (30, 10), (30, 11), (30, 12), (30, 13), (30, 14), (30, 15), (30, 16), (30, 17), (30, 18), (30, 19), (30, 20), (30, 21), (30, 22), (30, 23), (30, 24), (30, 25), (30, 26), (30, 27), (30, 28), (30, 29), (30, 30), (30, 31), (30, 32), (30, 33), (30, 34), (30, 35), (30, 36), (30, 37)] (by rfl) (by decide +kernel)
set_option maxRecDepth 100000 in
theorem gL_law_X8_name : GoodIn wsL_law (wsV RL 46 RX8 yX8_name wsX8_name) := goodIn_app (goodIn_c lwLL_in _ [(15, 7), (15, 8), (15, 9), (0, 5)] (by rfl) (by decide +kernel)) ggL_law_X8_name
set_option maxRecDepth 100000 in
theorem ggL_law_X7_set : GoodIn wsL_law wsX7_set := goodIn_c lwLL_in _ [(15, 14), (1, 7), (1, 8), (6, 15), (6, 16), (6, 17), (0, 2), (6, 18), (2, 3), (6, 19), (6, 20), (6, 21), (6, 22), (29, 0), (29, 1), (29, 2), (29, 3), (29, 4), (29, 5), (29, 6), (29, 7), (29, 8), (29, 9), (29, 10), (29, 11), (29, 12), (29, 13), (29, 14), (29, 15), (29, 16), (29, 17)] (by rfl) (by decide +kernel)
set_option maxRecDepth 100000 in
theorem gL_law_X7_set : GoodIn wsL_law (wsV RL 47 RX7 yX7_set wsX7_set) := goodIn_app (goodIn_c lwLL_in _ [(15, 11), (15, 12), (15, 13), (0, 2)] (by rfl) (by decide +kernel)) ggL_law_X7_set
set_option maxRecDepth 100000 in
theorem ggL_law_X8_set : GoodIn wsL_law wsX8_set := goodIn_c lwLL_in _ [(15, 18), (6, 8), (7, 8), (5, 4), (5, 5), (30, 0), (30, 1), (30, 2), (30, 3), (30, 4), (30, 5), (30, 6), (30, 7), (30, 8), (30, 9), (30, 10), (30, 11), (30, 12), (30, 13), (30, 14), (30, 15), (30, 16), (30, 17), (30, 18), (30, 19), (30, 20), (30, 21), (30, 22), (30, 23), (30, 24), (30, 25), (30, 26), (30, 27), (30, 28), (30, 29), (30, 30), (30, 31), (30, 32), (30, 33), (30, 34), (30, 35), (30, 36), (30, 37)] (by rfl) (by decide +kernel)
set_option maxRecDepth 100000 in
theorem gL_law_X8_set : GoodIn wsL_law (wsV RL 51 RX8 yX8_set wsX8_set) := goodIn_app (goodIn_c lwLL_in _ [(15, 15), (15, 16), (15, 17), (0, 5)] (by rfl) (by decide +kernel)) ggL_law_X8_set
set_option maxRecDepth 100000 in
theorem ggL_law_X7_pair : GoodIn wsL_law wsX7_pair := goodIn_c lwLL_in _ [(15, 22), (0, 19), (7, 21), (7, 22), (7, 23), (0, 18), (8, 0), (2, 8), (15, 23), (16, 0), (0, 2), (16, 1), (16, 2), (16, 3), (16, 4), (16, 5), (2, 7), (29, 0), (29, 1), (29, 2), (29, 3), (29, 4), (29, 5), (29, 6), (29, 7), (29, 8), (29, 9), (29, 10), (29, 11), (29, 12), (29, 13), (29, 14), (29, 15), (29, 16), (29, 17), (31, 0), (31, 1)] (by rfl) (by decide +kernel)
set_option maxRecDepth 100000 in
theorem gL_law_X7_pair : GoodIn wsL_law (wsV RL 52 RX7 yX7_pair wsX7_pair) := goodIn_app (goodIn_c lwLL_in _ [(15, 19), (15, 20), (15, 21), (0, 2)] (by rfl) (by decide +kernel)) ggL_law_X7_pair
set_option maxRecDepth 100000 in
theorem ggL_law_X8_pair : GoodIn wsL_law wsX8_pair := goodIn_c lwLL_in _ [(16, 9), (6, 8), (4, 21), (11, 18), (11, 19), (11, 20), (0, 5), (11, 21), (7, 3), (30, 0), (30, 1), (30, 2), (30, 3), (30, 4), (30, 5), (30, 6), (30, 7), (30, 8), (30, 9), (30, 10), (30, 11), (30, 12), (30, 13), (30, 14), (30, 15), (30, 16), (30, 17), (30, 18), (30, 19), (30, 20), (30, 21), (30, 22), (30, 23), (30, 24), (30, 25), (30, 26), (30, 27), (30, 28), (30, 29), (30, 30), (30, 31), (30, 32), (30, 33), (30, 34), (30, 35), (30, 36), (30, 37)] (by rfl) (by decide +kernel)
set_option maxRecDepth 100000 in
theorem gL_law_X8_pair : GoodIn wsL_law (wsV RL 56 RX8 yX8_pair wsX8_pair) := goodIn_app (goodIn_c lwLL_in _ [(16, 6), (16, 7), (16, 8), (0, 5)] (by rfl) (by decide +kernel)) ggL_law_X8_pair
set_option maxRecDepth 100000 in
theorem ggL_law_X7_text : GoodIn wsL_law wsX7_text := goodIn_c lwLL_in _ [(16, 13), (8, 1), (8, 2), (8, 3), (0, 2), (8, 4), (0, 15), (6, 15), (6, 16), (6, 17), (6, 18), (2, 3), (8, 5), (8, 6), (8, 7), (8, 8), (1, 13), (8, 9), (8, 10), (8, 11), (1, 11), (8, 12), (3, 5), (3, 6), (8, 13), (8, 14), (8, 15), (8, 16), (0, 14), (8, 17), (8, 18), (8, 19), (8, 20), (3, 2), (8, 21), (8, 22), (8, 23), (9, 0), (9, 1), (9, 2), (9, 3), (9, 4), (3, 3), (3, 4), (9, 5), (9, 6), (9, 7), (9, 8), (9, 9), (9, 10), (9, 11), (9, 12), (9, 13), (9, 14), (9, 15), (9, 16), (2, 15), (2, 16), (2, 17), (16, 14), (16, 15), (16, 16), (16, 17), (1, 12), (1, 14), (10, 1), (6, 19), (6, 20), (6, 21), (6, 22), (29, 0), (29, 1), (29, 2), (29, 3), (29, 4), (29, 5), (29, 6), (29, 7), (29, 8), (29, 9), (29, 10), (29, 11), (29, 12), (29, 13), (29, 14), (29, 15), (29, 16), (29, 17), (33, 0), (33, 1), (33, 2), (33, 3), (33, 4)] (by rfl) (by decide +kernel)
set_option maxRecDepth 100000 in
theorem gL_law_X7_text : GoodIn wsL_law (wsV RL 57 RX7 yX7_text wsX7_text) := goodIn_app (goodIn_c lwLL_in _ [(16, 10), (16, 11), (16, 12), (0, 2)] (by rfl) (by decide +kernel)) ggL_law_X7_text
set_option maxRecDepth 100000 in
theorem ggL_law_X8_text : GoodIn wsL_law wsX8_text := goodIn_c lwLL_in _ [(16, 21), (6, 8), (6, 9), (4, 12), (5, 6), (16, 22), (16, 23), (17, 0), (11, 22), (11, 23), (12, 0), (0, 5), (12, 1), (7, 4), (7, 5), (7, 6), (7, 7), (7, 8), (12, 2), (12, 3), (12, 4), (12, 5), (4, 13), (4, 14), (4, 15), (12, 6), (12, 7), (12, 8), (12, 9), (12, 10), (12, 11), (7, 9), (7, 10), (7, 11), (7, 12), (30, 0), (30, 1), (30, 2), (30, 3), (30, 4), (30, 5), (30, 6), (30, 7), (30, 8), (30, 9), (30, 10), (30, 11), (30, 12), (30, 13), (30, 14), (30, 15), (30, 16), (30, 17), (30, 18), (30, 19), (30, 20), (30, 21), (30, 22), (30, 23), (30, 24), (30, 25), (30, 26), (30, 27), (30, 28), (30, 29), (30, 30), (30, 31), (30, 32), (30, 33), (30, 34), (30, 35), (30, 36), (30, 37)] (by rfl) (by decide +kernel)
set_option maxRecDepth 100000 in
theorem gL_law_X8_text : GoodIn wsL_law (wsV RL 60 RX8 yX8_text wsX8_text) := goodIn_app (goodIn_c lwLL_in _ [(16, 18), (16, 19), (16, 20), (0, 5)] (by rfl) (by decide +kernel)) ggL_law_X8_text
set_option maxRecDepth 100000 in
theorem ggL_law_X7_more : GoodIn wsL_law wsX7_more := goodIn_c lwLL_in _ [(17, 4), (1, 13), (1, 12), (10, 3), (17, 5), (8, 1), (8, 2), (8, 3), (0, 2), (8, 4), (0, 15), (6, 15), (6, 16), (6, 17), (6, 18), (2, 3), (8, 9), (8, 10), (8, 11), (1, 11), (8, 12), (3, 5), (3, 6), (8, 17), (8, 18), (8, 19), (8, 20), (3, 2), (8, 21), (8, 22), (8, 23), (9, 0), (8, 13), (8, 14), (8, 15), (8, 16), (0, 14), (9, 1), (9, 2), (9, 3), (9, 4), (3, 3), (3, 4), (9, 5), (9, 6), (9, 7), (9, 8), (9, 9), (9, 10), (9, 11), (9, 12), (9, 13), (9, 14), (9, 15), (9, 16), (2, 15), (2, 16), (2, 17), (16, 14), (16, 15), (16, 16), (16, 17), (1, 14), (10, 1), (6, 19), (6, 20), (6, 21), (6, 22), (29, 0), (29, 1), (29, 2), (29, 3), (29, 4), (29, 5), (29, 6), (29, 7), (29, 8), (29, 9), (29, 10), (29, 11), (29, 12), (29, 13), (29, 14), (29, 15), (29, 16), (29, 17), (33, 0), (33, 1), (33, 2), (33, 3), (33, 4)] (by rfl) (by decide +kernel)
set_option maxRecDepth 100000 in
theorem gL_law_X7_more : GoodIn wsL_law (wsV RL 61 RX7 yX7_more wsX7_more) := goodIn_app (goodIn_c lwLL_in _ [(17, 1), (17, 2), (17, 3), (0, 2)] (by rfl) (by decide +kernel)) ggL_law_X7_more
set_option maxRecDepth 100000 in
theorem ggL_law_X8_more : GoodIn wsL_law wsX8_more := goodIn_c lwLL_in _ [(17, 9), (6, 8), (6, 9), (16, 22), (5, 7), (5, 6), (4, 12), (16, 23), (17, 0), (11, 22), (11, 23), (12, 0), (0, 5), (12, 1), (7, 4), (7, 5), (7, 6), (7, 7), (7, 8), (12, 2), (12, 3), (12, 4), (12, 5), (4, 13), (4, 14), (4, 15), (12, 6), (12, 7), (12, 8), (12, 9), (12, 10), (12, 11), (7, 9), (7, 10), (7, 11), (7, 12), (30, 0), (30, 1), (30, 2), (30, 3), (30, 4), (30, 5), (30, 6), (30, 7), (30, 8), (30, 9), (30, 10), (30, 11), (30, 12), (30, 13), (30, 14), (30, 15), (30, 16), (30, 17), (30, 18), (30, 19), (30, 20), (30, 21), (30, 22), (30, 23), (30, 24), (30, 25), (30, 26), (30, 27), (30, 28), (30, 29), (30, 30), (30, 31), (30, 32), (30, 33), (30, 34), (30, 35), (30, 36), (30, 37)] (by rfl) (by decide +kernel)
set_option maxRecDepth 100000 in
theorem gL_law_X8_more : GoodIn wsL_law (wsV RL 64 RX8 yX8_more wsX8_more) := goodIn_app (goodIn_c lwLL_in _ [(17, 6), (17, 7), (17, 8), (0, 5)] (by rfl) (by decide +kernel)) ggL_law_X8_more
set_option maxRecDepth 100000 in
theorem ggL_law_X7_word : GoodIn wsL_law wsX7_word := goodIn_c lwLL_in _ [(17, 13), (1, 12), (10, 4), (10, 2), (17, 14), (17, 15), (17, 16), (0, 2), (17, 17), (10, 1), (17, 18), (17, 19), (17, 20), (17, 21), (1, 6), (1, 3), (10, 10), (10, 11), (10, 12), (1, 11), (10, 13), (3, 2), (3, 3), (10, 14), (10, 15), (10, 16), (1, 2), (10, 17), (2, 13), (10, 18), (10, 19), (10, 20), (10, 21), (2, 22), (10, 22), (10, 23), (2, 21), (11, 0), (29, 0), (29, 1), (29, 2), (29, 3), (29, 4), (29, 5), (29, 6), (29, 7), (29, 8), (29, 9), (29, 10), (29, 11), (29, 12), (29, 13), (29, 14), (29, 15), (29, 16), (29, 17), (33, 0), (33, 1), (33, 2), (33, 3), (33, 4), (32, 0), (32, 1), (32, 2)] (by rfl) (by decide +kernel)
set_option maxRecDepth 100000 in
theorem gL_law_X7_word : GoodIn wsL_law (wsV RL 65 RX7 yX7_word wsX7_word) := goodIn_app (goodIn_c lwLL_in _ [(17, 10), (17, 11), (17, 12), (0, 2)] (by rfl) (by decide +kernel)) ggL_law_X7_word
set_option maxRecDepth 100000 in
theorem ggL_law_X8_word : GoodIn wsL_law wsX8_word := goodIn_c lwLL_in _ [(18, 1), (6, 8), (16, 23), (4, 13), (4, 14), (4, 15), (5, 6), (18, 2), (18, 3), (18, 4), (0, 5), (18, 5), (16, 22), (12, 2), (12, 3), (12, 4), (12, 5), (12, 6), (12, 7), (12, 8), (12, 9), (12, 10), (12, 11), (12, 12), (12, 13), (12, 14), (12, 15), (12, 16), (4, 17), (4, 20), (12, 17), (12, 18), (12, 19), (12, 20), (2, 15), (2, 16), (2, 17), (12, 21), (12, 22), (12, 23), (14, 22), (14, 23), (15, 0), (15, 1), (14, 17), (4, 16), (4, 18), (30, 0), (30, 1), (30, 2), (30, 3), (30, 4), (30, 5), (30, 6), (30, 7), (30, 8), (30, 9), (30, 10), (30, 11), (30, 12), (30, 13), (30, 14), (30, 15), (30, 16), (30, 17), (30, 18), (30, 19), (30, 20), (30, 21), (30, 22), (30, 23), (30, 24), (30, 25), (30, 26), (30, 27), (30, 28), (30, 29), (30, 30), (30, 31), (30, 32), (30, 33), (30, 34), (30, 35), (30, 36), (30, 37)] (by rfl) (by decide +kernel)
set_option maxRecDepth 100000 in
theorem gL_law_X8_word : GoodIn wsL_law (wsV RL 68 RX8 yX8_word wsX8_word) := goodIn_app (goodIn_c lwLL_in _ [(17, 22), (17, 23), (18, 0), (0, 5)] (by rfl) (by decide +kernel)) ggL_law_X8_word
set_option maxRecDepth 100000 in
theorem ggL_law_X7_cost : GoodIn wsL_law wsX7_cost := goodIn_c lwLL_in _ [(18, 9), (0, 19), (17, 14), (17, 15), (17, 16), (0, 2), (17, 17), (1, 12), (10, 1), (7, 21), (7, 22), (7, 23), (0, 18), (8, 0), (2, 8), (18, 10), (18, 11), (18, 12), (18, 13), (1, 6), (1, 3), (1, 5), (10, 10), (10, 11), (10, 12), (1, 11), (10, 13), (3, 2), (3, 3), (10, 14), (10, 15), (10, 16), (1, 2), (10, 17), (2, 13), (10, 18), (10, 19), (10, 20), (10, 21), (2, 22), (10, 22), (10, 23), (2, 21), (11, 0), (18, 14), (18, 15), (18, 16), (18, 17), (18, 18), (18, 19), (18, 20), (18, 21), (18, 22), (18, 23), (19, 0), (19, 1), (19, 2), (19, 3), (19, 4), (19, 5), (16, 3), (16, 4), (16, 5), (2, 7), (29, 0), (29, 1), (29, 2), (29, 3), (29, 4), (29, 5), (29, 6), (29, 7), (29, 8), (29, 9), (29, 10), (29, 11), (29, 12), (29, 13), (29, 14), (29, 15), (29, 16), (29, 17), (33, 0), (33, 1), (33, 2), (33, 3), (33, 4), (31, 0), (31, 1), (32, 0), (32, 1), (32, 2)] (by rfl) (by decide +kernel)
set_option maxRecDepth 100000 in
theorem gL_law_X7_cost : GoodIn wsL_law (wsV RL 69 RX7 yX7_cost wsX7_cost) := goodIn_app (goodIn_c lwLL_in _ [(18, 6), (18, 7), (18, 8), (0, 2)] (by rfl) (by decide +kernel)) ggL_law_X7_cost
set_option maxRecDepth 100000 in
theorem ggL_law_X8_cost : GoodIn wsL_law wsX8_cost := goodIn_c lwLL_in _ [(19, 9), (6, 8), (16, 23), (11, 18), (11, 19), (11, 20), (0, 5), (11, 21), (7, 3), (18, 2), (18, 3), (18, 4), (18, 5), (5, 6), (16, 22), (12, 2), (12, 3), (12, 4), (12, 5), (4, 13), (4, 14), (4, 15), (12, 6), (12, 7), (12, 8), (12, 9), (12, 10), (12, 11), (19, 10), (19, 11), (19, 12), (19, 13), (4, 19), (4, 21), (12, 12), (12, 13), (12, 14), (12, 15), (12, 16), (4, 17), (4, 20), (12, 17), (12, 18), (12, 19), (12, 20), (2, 15), (2, 16), (2, 17), (12, 21), (12, 22), (12, 23), (14, 22), (14, 23), (15, 0), (15, 1), (14, 17), (4, 16), (4, 18), (19, 14), (19, 15), (19, 16), (30, 0), (30, 1), (30, 2), (30, 3), (30, 4), (30, 5), (30, 6), (30, 7), (30, 8), (30, 9), (30, 10), (30, 11), (30, 12), (30, 13), (30, 14), (30, 15), (30, 16), (30, 17), (30, 18), (30, 19), (30, 20), (30, 21), (30, 22), (30, 23), (30, 24), (30, 25), (30, 26), (30, 27), (30, 28), (30, 29), (30, 30), (30, 31), (30, 32), (30, 33), (30, 34), (30, 35), (30, 36), (30, 37)] (by rfl) (by decide +kernel)
set_option maxRecDepth 100000 in
theorem gL_law_X8_cost : GoodIn wsL_law (wsV RL 72 RX8 yX8_cost wsX8_cost) := goodIn_app (goodIn_c lwLL_in _ [(19, 6), (19, 7), (19, 8), (0, 5)] (by rfl) (by decide +kernel)) ggL_law_X8_cost
set_option maxRecDepth 100000 in
theorem ggL_law_X7_part : GoodIn wsL_law wsX7_part := goodIn_c lwLL_in _ [(19, 20), (1, 18), (1, 22), (19, 21), (19, 22), (19, 23), (20, 0), (20, 1), (0, 2), (20, 2), (1, 14), (0, 19), (6, 14), (6, 15), (6, 16), (6, 17), (6, 18), (2, 3), (20, 3), (20, 4), (20, 5), (20, 6), (1, 12), (10, 1), (1, 7), (20, 7), (20, 8), (20, 9), (20, 10), (1, 17), (20, 11), (3, 14), (3, 15), (3, 16), (3, 17), (18, 10), (18, 11), (18, 12), (18, 13), (1, 6), (1, 3), (1, 5), (10, 10), (10, 11), (10, 12), (1, 11), (10, 13), (3, 2), (3, 3), (10, 14), (10, 15), (10, 16), (1, 2), (10, 17), (2, 13), (10, 18), (10, 19), (10, 20), (10, 21), (2, 22), (10, 22), (10, 23), (2, 21), (11, 0), (18, 14), (18, 15), (18, 16), (18, 17), (18, 18), (18, 19), (18, 20), (0, 18), (18, 21), (18, 22), (18, 23), (19, 0), (19, 1), (19, 2), (19, 3), (19, 4), (19, 5), (16, 3), (16, 4), (16, 5), (2, 7), (20, 12), (20, 13), (20, 14), (20, 15), (3, 12), (20, 16), (20, 17), (20, 18), (20, 19), (20, 20), (3, 11), (20, 21), (2, 15), (2, 16), (2, 17), (3, 10), (20, 22), (20, 23), (21, 0), (21, 1), (21, 2), (3, 18), (21, 3), (21, 4), (21, 5), (21, 6), (21, 7), (21, 8), (21, 9), (1, 21), (21, 10), (3, 22), (21, 11), (8, 22), (8, 23), (9, 0), (3, 23), (4, 0), (6, 19), (6, 20), (6, 21), (6, 22), (29, 0), (29, 1), (29, 2), (29, 3), (29, 4), (29, 5), (29, 6), (29, 7), (29, 8), (29, 9), (29, 10), (29, 11), (29, 12), (29, 13), (29, 14), (29, 15), (29, 16), (29, 17), (34, 0), (34, 1), (34, 2), (34, 3), (34, 4), (34, 5), (34, 6), (34, 7), (34, 8), (31, 0), (31, 1), (33, 0), (33, 1), (33, 2), (33, 3), (33, 4), (32, 0), (32, 1), (32, 2), (35, 0), (35, 1), (35, 2)] (by rfl) (by decide +kernel)
set_option maxRecDepth 100000 in
theorem gL_law_X7_part : GoodIn wsL_law (wsV RL 73 RX7 yX7_part wsX7_part) := goodIn_app (goodIn_c lwLL_in _ [(19, 17), (19, 18), (19, 19), (0, 2)] (by rfl) (by decide +kernel)) ggL_law_X7_part
set_option maxRecDepth 100000 in
theorem ggL_law_X8_part : GoodIn wsL_law wsX8_part := goodIn_c lwLL_in _ [(21, 15), (6, 8), (16, 23), (5, 15), (5, 14), (5, 12), (5, 9), (21, 16), (21, 17), (21, 18), (0, 5), (21, 19), (17, 0), (7, 3), (7, 4), (7, 5), (7, 6), (7, 7), (7, 8), (7, 9), (7, 10), (7, 11), (7, 12), (21, 20), (21, 21), (21, 22), (21, 23), (5, 8), (18, 2), (18, 3), (18, 4), (18, 5), (5, 6), (16, 22), (12, 2), (12, 3), (12, 4), (12, 5), (4, 13), (4, 14), (4, 15), (12, 6), (12, 7), (12, 8), (12, 9), (12, 10), (12, 11), (19, 10), (19, 11), (19, 12), (19, 13), (4, 19), (4, 21), (12, 12), (12, 13), (12, 14), (12, 15), (12, 16), (4, 17), (4, 20), (12, 17), (12, 18), (12, 19), (12, 20), (2, 15), (2, 16), (2, 17), (12, 21), (12, 22), (12, 23), (14, 22), (14, 23), (15, 0), (15, 1), (14, 17), (4, 16), (4, 18), (19, 14), (19, 15), (19, 16), (22, 0), (22, 1), (22, 2), (22, 3), (22, 4), (5, 10), (5, 4), (5, 13), (22, 5), (22, 6), (22, 7), (22, 8), (22, 9), (22, 10), (22, 11), (30, 0), (30, 1), (30, 2), (30, 3), (30, 4), (30, 5), (30, 6), (30, 7), (30, 8), (30, 9), (30, 10), (30, 11), (30, 12), (30, 13), (30, 14), (30, 15), (30, 16), (30, 17), (30, 18), (30, 19), (30, 20), (30, 21), (30, 22), (30, 23), (30, 24), (30, 25), (30, 26), (30, 27), (30, 28), (30, 29), (30, 30), (30, 31), (30, 32), (30, 33), (30, 34), (30, 35), (30, 36), (30, 37)] (by rfl) (by decide +kernel)
set_option maxRecDepth 100000 in
theorem gL_law_X8_part : GoodIn wsL_law (wsV RL 76 RX8 yX8_part wsX8_part) := goodIn_app (goodIn_c lwLL_in _ [(21, 12), (21, 13), (21, 14), (0, 5)] (by rfl) (by decide +kernel)) ggL_law_X8_part
set_option maxRecDepth 100000 in
theorem ggL_law_X7_told : GoodIn wsL_law wsX7_told := goodIn_c lwLL_in _ [(22, 15), (1, 22), (22, 16), (22, 17), (29, 0), (29, 1), (29, 2), (29, 3), (29, 4), (29, 5), (29, 6), (29, 7), (29, 8), (29, 9), (29, 10), (29, 11), (29, 12), (29, 13), (29, 14), (29, 15), (29, 16), (29, 17), (35, 0), (35, 1), (35, 2)] (by rfl) (by decide +kernel)
set_option maxRecDepth 100000 in
theorem gL_law_X7_told : GoodIn wsL_law (wsV RL 77 RX7 yX7_told wsX7_told) := goodIn_app (goodIn_c lwLL_in _ [(22, 12), (22, 13), (22, 14), (0, 2)] (by rfl) (by decide +kernel)) ggL_law_X7_told
set_option maxRecDepth 100000 in
theorem ggL_law_X8_told : GoodIn wsL_law wsX8_told := goodIn_c lwLL_in _ [(22, 21), (6, 8), (5, 15), (5, 14), (30, 0), (30, 1), (30, 2), (30, 3), (30, 4), (30, 5), (30, 6), (30, 7), (30, 8), (30, 9), (30, 10), (30, 11), (30, 12), (30, 13), (30, 14), (30, 15), (30, 16), (30, 17), (30, 18), (30, 19), (30, 20), (30, 21), (30, 22), (30, 23), (30, 24), (30, 25), (30, 26), (30, 27), (30, 28), (30, 29), (30, 30), (30, 31), (30, 32), (30, 33), (30, 34), (30, 35), (30, 36), (30, 37)] (by rfl) (by decide +kernel)
set_option maxRecDepth 100000 in
theorem gL_law_X8_told : GoodIn wsL_law (wsV RL 80 RX8 yX8_told wsX8_told) := goodIn_app (goodIn_c lwLL_in _ [(22, 18), (22, 19), (22, 20), (0, 5)] (by rfl) (by decide +kernel)) ggL_law_X8_told
set_option maxRecDepth 100000 in
theorem ggL_law_X7_spans : GoodIn wsL_law wsX7_spans := goodIn_c lwLL_in _ [(23, 1), (1, 22), (23, 2), (23, 3), (23, 4), (23, 5), (1, 21), (23, 6), (3, 23), (23, 7), (23, 8), (23, 9), (23, 10), (3, 22), (29, 0), (29, 1), (29, 2), (29, 3), (29, 4), (29, 5), (29, 6), (29, 7), (29, 8), (29, 9), (29, 10), (29, 11), (29, 12), (29, 13), (29, 14), (29, 15), (29, 16), (29, 17), (35, 0), (35, 1), (35, 2)] (by rfl) (by decide +kernel)
set_option maxRecDepth 100000 in
theorem gL_law_X7_spans : GoodIn wsL_law (wsV RL 81 RX7 yX7_spans wsX7_spans) := goodIn_app (goodIn_c lwLL_in _ [(22, 22), (22, 23), (23, 0), (0, 2)] (by rfl) (by decide +kernel)) ggL_law_X7_spans
set_option maxRecDepth 100000 in
theorem ggL_law_X8_spans : GoodIn wsL_law wsX8_spans := goodIn_c lwLL_in _ [(23, 14), (6, 8), (5, 15), (23, 15), (23, 16), (23, 17), (0, 5), (23, 18), (5, 14), (30, 0), (30, 1), (30, 2), (30, 3), (30, 4), (30, 5), (30, 6), (30, 7), (30, 8), (30, 9), (30, 10), (30, 11), (30, 12), (30, 13), (30, 14), (30, 15), (30, 16), (30, 17), (30, 18), (30, 19), (30, 20), (30, 21), (30, 22), (30, 23), (30, 24), (30, 25), (30, 26), (30, 27), (30, 28), (30, 29), (30, 30), (30, 31), (30, 32), (30, 33), (30, 34), (30, 35), (30, 36), (30, 37)] (by rfl) (by decide +kernel)
set_option maxRecDepth 100000 in
theorem gL_law_X8_spans : GoodIn wsL_law (wsV RL 84 RX8 yX8_spans wsX8_spans) := goodIn_app (goodIn_c lwLL_in _ [(23, 11), (23, 12), (23, 13), (0, 5)] (by rfl) (by decide +kernel)) ggL_law_X8_spans
set_option maxRecDepth 100000 in
theorem ggL_law_X7_span : GoodIn wsL_law wsX7_span := goodIn_c lwLL_in _ [(23, 22), (1, 22), (22, 17), (23, 23), (24, 0), (24, 1), (1, 21), (24, 2), (3, 23), (23, 7), (23, 8), (23, 9), (23, 10), (3, 22), (24, 3), (24, 4), (24, 5), (24, 6), (29, 0), (29, 1), (29, 2), (29, 3), (29, 4), (29, 5), (29, 6), (29, 7), (29, 8), (29, 9), (29, 10), (29, 11), (29, 12), (29, 13), (29, 14), (29, 15), (29, 16), (29, 17), (35, 0), (35, 1), (35, 2)] (by rfl) (by decide +kernel)
set_option maxRecDepth 100000 in
theorem gL_law_X7_span : GoodIn wsL_law (wsV RL 85 RX7 yX7_span wsX7_span) := goodIn_app (goodIn_c lwLL_in _ [(23, 19), (23, 20), (23, 21), (0, 2)] (by rfl) (by decide +kernel)) ggL_law_X7_span
set_option maxRecDepth 100000 in
theorem ggL_law_X8_span : GoodIn wsL_law wsX8_span := goodIn_c lwLL_in _ [(24, 10), (6, 8), (5, 15), (5, 14), (23, 15), (23, 16), (23, 17), (0, 5), (23, 18), (30, 0), (30, 1), (30, 2), (30, 3), (30, 4), (30, 5), (30, 6), (30, 7), (30, 8), (30, 9), (30, 10), (30, 11), (30, 12), (30, 13), (30, 14), (30, 15), (30, 16), (30, 17), (30, 18), (30, 19), (30, 20), (30, 21), (30, 22), (30, 23), (30, 24), (30, 25), (30, 26), (30, 27), (30, 28), (30, 29), (30, 30), (30, 31), (30, 32), (30, 33), (30, 34), (30, 35), (30, 36), (30, 37)] (by rfl) (by decide +kernel)
set_option maxRecDepth 100000 in
theorem gL_law_X8_span : GoodIn wsL_law (wsV RL 88 RX8 yX8_span wsX8_span) := goodIn_app (goodIn_c lwLL_in _ [(24, 7), (24, 8), (24, 9), (0, 5)] (by rfl) (by decide +kernel)) ggL_law_X8_span
set_option maxRecDepth 100000 in
theorem ggL_law_X7_sure : GoodIn wsL_law wsX7_sure := goodIn_c lwLL_in _ [(24, 14), (0, 19), (6, 14), (24, 15), (1, 18), (19, 21), (19, 23), (20, 0), (20, 1), (0, 2), (20, 2), (1, 14), (6, 15), (6, 16), (6, 17), (6, 18), (2, 3), (17, 14), (17, 15), (17, 16), (17, 17), (1, 12), (10, 1), (6, 19), (6, 20), (6, 21), (6, 22), (20, 3), (20, 4), (20, 5), (20, 6), (1, 7), (20, 7), (20, 8), (20, 9), (20, 10), (1, 17), (20, 11), (3, 14), (3, 15), (3, 16), (3, 17), (18, 10), (18, 11), (18, 12), (18, 13), (1, 6), (1, 3), (1, 5), (10, 10), (10, 11), (10, 12), (1, 11), (10, 13), (3, 2), (3, 3), (10, 14), (10, 15), (10, 16), (1, 2), (10, 17), (2, 13), (10, 18), (10, 19), (10, 20), (10, 21), (2, 22), (10, 22), (10, 23), (2, 21), (11, 0), (18, 14), (18, 15), (18, 16), (18, 17), (18, 18), (18, 19), (18, 20), (0, 18), (18, 21), (18, 22), (18, 23), (19, 0), (19, 1), (19, 2), (19, 3), (19, 4), (19, 5), (16, 3), (16, 4), (16, 5), (2, 7), (20, 12), (20, 13), (20, 14), (20, 15), (3, 12), (20, 16), (20, 17), (20, 18), (20, 19), (20, 20), (3, 11), (20, 21), (2, 15), (2, 16), (2, 17), (3, 10), (20, 22), (20, 23), (21, 0), (21, 1), (21, 2), (3, 18), (21, 3), (21, 4), (21, 5), (21, 6), (24, 16), (24, 17), (24, 18), (24, 19), (29, 0), (29, 1), (29, 2), (29, 3), (29, 4), (29, 5), (29, 6), (29, 7), (29, 8), (29, 9), (29, 10), (29, 11), (29, 12), (29, 13), (29, 14), (29, 15), (29, 16), (29, 17), (31, 0), (31, 1), (34, 0), (34, 1), (34, 2), (34, 3), (34, 4), (34, 5), (34, 6), (34, 7), (34, 8), (33, 0), (33, 1), (33, 2), (33, 3), (33, 4), (32, 0), (32, 1), (32, 2)] (by rfl) (by decide +kernel)
set_option maxRecDepth 100000 in
theorem gL_law_X7_sure : GoodIn wsL_law (wsV RL 89 RX7 yX7_sure wsX7_sure) := goodIn_app (goodIn_c lwLL_in _ [(24, 11), (24, 12), (24, 13), (0, 2)] (by rfl) (by decide +kernel)) ggL_law_X7_sure
set_option maxRecDepth 100000 in
theorem ggL_law_X8_sure : GoodIn wsL_law wsX8_sure := goodIn_c lwLL_in _ [(24, 23), (6, 8), (16, 23), (5, 9), (5, 12), (22, 4), (21, 16), (21, 17), (21, 18), (0, 5), (21, 19), (17, 0), (7, 3), (7, 4), (7, 5), (7, 6), (7, 7), (7, 8), (21, 20), (21, 21), (21, 22), (21, 23), (5, 8), (18, 2), (18, 3), (18, 4), (18, 5), (5, 6), (16, 22), (12, 2), (12, 3), (12, 4), (12, 5), (4, 13), (4, 14), (4, 15), (12, 6), (12, 7), (12, 8), (12, 9), (12, 10), (12, 11), (19, 10), (19, 11), (19, 12), (19, 13), (4, 19), (4, 21), (12, 12), (12, 13), (12, 14), (12, 15), (12, 16), (4, 17), (4, 20), (12, 17), (12, 18), (12, 19), (12, 20), (2, 15), (2, 16), (2, 17), (12, 21), (12, 22), (12, 23), (14, 22), (14, 23), (15, 0), (15, 1), (14, 17), (4, 16), (4, 18), (19, 14), (19, 15), (19, 16), (22, 0), (22, 1), (22, 2), (22, 3), (5, 10), (5, 4), (5, 13), (22, 5), (22, 6), (22, 7), (22, 8), (22, 9), (22, 10), (22, 11), (7, 9), (7, 10), (7, 11), (7, 12), (30, 0), (30, 1), (30, 2), (30, 3), (30, 4), (30, 5), (30, 6), (30, 7), (30, 8), (30, 9), (30, 10), (30, 11), (30, 12), (30, 13), (30, 14), (30, 15), (30, 16), (30, 17), (30, 18), (30, 19), (30, 20), (30, 21), (30, 22), (30, 23), (30, 24), (30, 25), (30, 26), (30, 27), (30, 28), (30, 29), (30, 30), (30, 31), (30, 32), (30, 33), (30, 34), (30, 35), (30, 36), (30, 37)] (by rfl) (by decide +kernel)
set_option maxRecDepth 100000 in
theorem gL_law_X8_sure : GoodIn wsL_law (wsV RL 92 RX8 yX8_sure wsX8_sure) := goodIn_app (goodIn_c lwLL_in _ [(24, 20), (24, 21), (24, 22), (0, 5)] (by rfl) (by decide +kernel)) ggL_law_X8_sure
set_option maxRecDepth 100000 in
theorem ggL_law_X7_fixed : GoodIn wsL_law wsX7_fixed := goodIn_c lwLL_in _ [(25, 3), (1, 18), (19, 23), (20, 0), (20, 1), (0, 2), (20, 2), (1, 14), (0, 19), (6, 14), (6, 15), (6, 16), (6, 17), (6, 18), (2, 3), (20, 3), (20, 4), (20, 5), (20, 6), (1, 12), (10, 1), (1, 7), (20, 7), (20, 8), (20, 9), (20, 10), (1, 17), (20, 11), (3, 14), (3, 15), (3, 16), (3, 17), (18, 10), (18, 11), (18, 12), (18, 13), (1, 6), (1, 3), (1, 5), (10, 10), (10, 11), (10, 12), (1, 11), (10, 13), (3, 2), (3, 3), (10, 14), (10, 15), (10, 16), (1, 2), (10, 17), (2, 13), (10, 18), (10, 19), (10, 20), (10, 21), (2, 22), (10, 22), (10, 23), (2, 21), (11, 0), (18, 14), (18, 15), (18, 16), (18, 17), (18, 18), (18, 19), (18, 20), (0, 18), (18, 21), (18, 22), (18, 23), (19, 0), (19, 1), (19, 2), (19, 3), (19, 4), (19, 5), (16, 3), (16, 4), (16, 5), (2, 7), (25, 4), (25, 5), (25, 6), (25, 7), (3, 12), (3, 13), (25, 8), (8, 22), (8, 23), (9, 0), (25, 9), (24, 17), (24, 18), (24, 19), (3, 18), (25, 10), (20, 13), (20, 14), (20, 15), (20, 16), (20, 17), (20, 18), (20, 19), (20, 20), (3, 11), (20, 21), (2, 15), (2, 16), (2, 17), (3, 10), (20, 22), (20, 23), (21, 0), (21, 1), (21, 2), (21, 3), (21, 4), (21, 5), (21, 6), (25, 11), (25, 12), (25, 13), (25, 14), (6, 19), (6, 20), (6, 21), (6, 22), (29, 0), (29, 1), (29, 2), (29, 3), (29, 4), (29, 5), (29, 6), (29, 7), (29, 8), (29, 9), (29, 10), (29, 11), (29, 12), (29, 13), (29, 14), (29, 15), (29, 16), (29, 17), (31, 0), (31, 1), (33, 0), (33, 1), (33, 2), (33, 3), (33, 4), (34, 0), (34, 1), (34, 2), (34, 3), (34, 4), (34, 5), (34, 6), (34, 7), (34, 8), (32, 0), (32, 1), (32, 2)] (by rfl) (by decide +kernel)
set_option maxRecDepth 100000 in
theorem gL_law_X7_fixed : GoodIn wsL_law (wsV RL 93 RX7 yX7_fixed wsX7_fixed) := goodIn_app (goodIn_c lwLL_in _ [(25, 0), (25, 1), (25, 2), (0, 2)] (by rfl) (by decide +kernel)) ggL_law_X7_fixed
set_option maxRecDepth 100000 in
theorem ggL_law_X8_fixed : GoodIn wsL_law wsX8_fixed := goodIn_c lwLL_in _ [(25, 18), (6, 8), (16, 23), (7, 3), (5, 12), (21, 16), (21, 17), (21, 18), (0, 5), (21, 19), (17, 0), (7, 4), (7, 5), (7, 6), (7, 7), (7, 8), (7, 9), (7, 10), (7, 11), (7, 12), (21, 20), (21, 21), (21, 22), (21, 23), (5, 8), (18, 2), (18, 3), (18, 4), (18, 5), (5, 6), (16, 22), (12, 2), (12, 3), (12, 4), (12, 5), (4, 13), (4, 14), (4, 15), (12, 6), (12, 7), (12, 8), (12, 9), (12, 10), (12, 11), (19, 10), (19, 11), (19, 12), (19, 13), (4, 19), (4, 21), (12, 12), (12, 13), (12, 14), (12, 15), (12, 16), (4, 17), (4, 20), (12, 17), (12, 18), (12, 19), (12, 20), (2, 15), (2, 16), (2, 17), (12, 21), (12, 22), (12, 23), (14, 22), (14, 23), (15, 0), (15, 1), (14, 17), (4, 16), (4, 18), (19, 14), (19, 15), (19, 16), (22, 0), (22, 1), (22, 2), (22, 3), (22, 4), (5, 10), (5, 9), (5, 4), (5, 13), (22, 5), (22, 6), (22, 7), (30, 0), (30, 1), (30, 2), (30, 3), (30, 4), (30, 5), (30, 6), (30, 7), (30, 8), (30, 9), (30, 10), (30, 11), (30, 12), (30, 13), (30, 14), (30, 15), (30, 16), (30, 17), (30, 18), (30, 19), (30, 20), (30, 21), (30, 22), (30, 23), (30, 24), (30, 25), (30, 26), (30, 27), (30, 28), (30, 29), (30, 30), (30, 31), (30, 32), (30, 33), (30, 34), (30, 35), (30, 36), (30, 37)] (by rfl) (by decide +kernel)
set_option maxRecDepth 100000 in
theorem gL_law_X8_fixed : GoodIn wsL_law (wsV RL 96 RX8 yX8_fixed wsX8_fixed) := goodIn_app (goodIn_c lwLL_in _ [(25, 15), (25, 16), (25, 17), (0, 5)] (by rfl) (by decide +kernel)) ggL_law_X8_fixed
set_option maxRecDepth 100000 in
theorem ggL_law_X7_whole : GoodIn wsL_law wsX7_whole := goodIn_c lwLL_in _ [(25, 22), (0, 19), (1, 12), (10, 1), (19, 23), (20, 0), (20, 1), (0, 2), (20, 2), (1, 14), (6, 14), (6, 15), (6, 16), (6, 17), (6, 18), (2, 3), (7, 21), (7, 22), (7, 23), (0, 18), (8, 0), (2, 8), (18, 10), (18, 11), (18, 12), (18, 13), (1, 6), (1, 3), (1, 5), (10, 10), (10, 11), (10, 12), (1, 11), (10, 13), (3, 2), (3, 3), (10, 14), (10, 15), (10, 16), (1, 2), (10, 17), (2, 13), (10, 18), (10, 19), (10, 20), (10, 21), (2, 22), (10, 22), (10, 23), (2, 21), (11, 0), (18, 14), (18, 15), (18, 16), (18, 17), (18, 18), (18, 19), (18, 20), (18, 21), (18, 22), (18, 23), (19, 0), (19, 1), (19, 2), (19, 3), (19, 4), (19, 5), (16, 3), (16, 4), (16, 5), (2, 7), (6, 19), (6, 20), (6, 21), (6, 22), (29, 0), (29, 1), (29, 2), (29, 3), (29, 4), (29, 5), (29, 6), (29, 7), (29, 8), (29, 9), (29, 10), (29, 11), (29, 12), (29, 13), (29, 14), (29, 15), (29, 16), (29, 17), (33, 0), (33, 1), (33, 2), (33, 3), (33, 4), (31, 0), (31, 1), (32, 0), (32, 1), (32, 2)] (by rfl) (by decide +kernel)
