theorem dX5_costsFromBehind_23 : decode cX5_costsFromBehind 23 = .ok (.aload_n 0, 1) := by decide +kernel
theorem dX5_costsFromBehind_24 : decode cX5_costsFromBehind 24 = .ok (.getfield 28, 3) := by decide +kernel
theorem dX5_costsFromBehind_27 : decode cX5_costsFromBehind 27 = .ok (.if_icmp .ge 99, 3) := by decide +kernel
theorem dX5_costsFromBehind_30 : decode cX5_costsFromBehind 30 = .ok (.iload_n 2, 1) := by decide +kernel
theorem dX5_costsFromBehind_31 : decode cX5_costsFromBehind 31 = .ok (.bipush 8, 2) := by decide +kernel
theorem dX5_costsFromBehind_33 : decode cX5_costsFromBehind 33 = .ok (.imul, 1) := by decide +kernel
theorem dX5_costsFromBehind_34 : decode cX5_costsFromBehind 34 = .ok (.iload 4, 2) := by decide +kernel
theorem dX5_costsFromBehind_36 : decode cX5_costsFromBehind 36 = .ok (.iadd, 1) := by decide +kernel
theorem dX5_costsFromBehind_37 : decode cX5_costsFromBehind 37 = .ok (.istore 5, 2) := by decide +kernel
theorem dX5_costsFromBehind_39 : decode cX5_costsFromBehind 39 = .ok (.iload_n 2, 1) := by decide +kernel
theorem dX5_costsFromBehind_40 : decode cX5_costsFromBehind 40 = .ok (.aload_n 0, 1) := by decide +kernel
theorem dX5_costsFromBehind_41 : decode cX5_costsFromBehind 41 = .ok (.getfield 24, 3) := by decide +kernel
theorem dX5_costsFromBehind_44 : decode cX5_costsFromBehind 44 = .ok (.iconst 1, 1) := by decide +kernel
theorem dX5_costsFromBehind_45 : decode cX5_costsFromBehind 45 = .ok (.isub, 1) := by decide +kernel
theorem dX5_costsFromBehind_46 : decode cX5_costsFromBehind 46 = .ok (.if_icmp .ne 7, 3) := by decide +kernel
theorem dX5_costsFromBehind_49 : decode cX5_costsFromBehind 49 = .ok (.iconst 0, 1) := by decide +kernel
theorem dX5_costsFromBehind_50 : decode cX5_costsFromBehind 50 = .ok (.goto 22, 3) := by decide +kernel
theorem dX5_costsFromBehind_53 : decode cX5_costsFromBehind 53 = .ok (.aload_n 0, 1) := by decide +kernel
theorem dX5_costsFromBehind_54 : decode cX5_costsFromBehind 54 = .ok (.getfield 15, 3) := by decide +kernel
theorem dX5_costsFromBehind_57 : decode cX5_costsFromBehind 57 = .ok (.iload 5, 2) := by decide +kernel
theorem dX5_costsFromBehind_59 : decode cX5_costsFromBehind 59 = .ok (.bipush 8, 2) := by decide +kernel
theorem dX5_costsFromBehind_61 : decode cX5_costsFromBehind 61 = .ok (.iadd, 1) := by decide +kernel
theorem dX5_costsFromBehind_62 : decode cX5_costsFromBehind 62 = .ok (.iaload, 1) := by decide +kernel
theorem dX5_costsFromBehind_63 : decode cX5_costsFromBehind 63 = .ok (.iload_n 3, 1) := by decide +kernel
theorem dX5_costsFromBehind_64 : decode cX5_costsFromBehind 64 = .ok (.aload_n 0, 1) := by decide +kernel
theorem dX5_costsFromBehind_65 : decode cX5_costsFromBehind 65 = .ok (.getfield 31, 3) := by decide +kernel
theorem dX5_costsFromBehind_68 : decode cX5_costsFromBehind 68 = .ok (.iadd, 1) := by decide +kernel
theorem dX5_costsFromBehind_69 : decode cX5_costsFromBehind 69 = .ok (.invokestatic 68, 3) := by decide +kernel
theorem dX5_costsFromBehind_72 : decode cX5_costsFromBehind 72 = .ok (.istore 6, 2) := by decide +kernel
theorem dX5_costsFromBehind_74 : decode cX5_costsFromBehind 74 = .ok (.aload_n 0, 1) := by decide +kernel
theorem dX5_costsFromBehind_75 : decode cX5_costsFromBehind 75 = .ok (.getfield 15, 3) := by decide +kernel
theorem dX5_costsFromBehind_78 : decode cX5_costsFromBehind 78 = .ok (.iload 5, 2) := by decide +kernel
theorem dX5_costsFromBehind_80 : decode cX5_costsFromBehind 80 = .ok (.aload_n 0, 1) := by decide +kernel
theorem dX5_costsFromBehind_81 : decode cX5_costsFromBehind 81 = .ok (.getfield 9, 3) := by decide +kernel
theorem dX5_costsFromBehind_84 : decode cX5_costsFromBehind 84 = .ok (.iload 5, 2) := by decide +kernel
theorem dX5_costsFromBehind_86 : decode cX5_costsFromBehind 86 = .ok (.iaload, 1) := by decide +kernel
theorem dX5_costsFromBehind_87 : decode cX5_costsFromBehind 87 = .ok (.iload 6, 2) := by decide +kernel
theorem dX5_costsFromBehind_89 : decode cX5_costsFromBehind 89 = .ok (.iadd, 1) := by decide +kernel
theorem dX5_costsFromBehind_90 : decode cX5_costsFromBehind 90 = .ok (.aload_n 0, 1) := by decide +kernel
theorem dX5_costsFromBehind_91 : decode cX5_costsFromBehind 91 = .ok (.iload_n 2, 1) := by decide +kernel
theorem dX5_costsFromBehind_92 : decode cX5_costsFromBehind 92 = .ok (.iload 4, 2) := by decide +kernel
theorem dX5_costsFromBehind_94 : decode cX5_costsFromBehind 94 = .ok (.invokevirtual 73, 3) := by decide +kernel
theorem dX5_costsFromBehind_97 : decode cX5_costsFromBehind 97 = .ok (.ifCond .eq 7, 3) := by decide +kernel
theorem dX5_costsFromBehind_100 : decode cX5_costsFromBehind 100 = .ok (.iconst 0, 1) := by decide +kernel
theorem dX5_costsFromBehind_101 : decode cX5_costsFromBehind 101 = .ok (.goto 5, 3) := by decide +kernel
theorem dX5_costsFromBehind_104 : decode cX5_costsFromBehind 104 = .ok (.ldc 77, 2) := by decide +kernel
theorem dX5_costsFromBehind_106 : decode cX5_costsFromBehind 106 = .ok (.iadd, 1) := by decide +kernel
theorem dX5_costsFromBehind_107 : decode cX5_costsFromBehind 107 = .ok (.iastore, 1) := by decide +kernel
theorem dX5_costsFromBehind_108 : decode cX5_costsFromBehind 108 = .ok (.iload_n 1, 1) := by decide +kernel
theorem dX5_costsFromBehind_109 : decode cX5_costsFromBehind 109 = .ok (.aload_n 0, 1) := by decide +kernel
theorem dX5_costsFromBehind_110 : decode cX5_costsFromBehind 110 = .ok (.getfield 15, 3) := by decide +kernel
theorem dX5_costsFromBehind_113 : decode cX5_costsFromBehind 113 = .ok (.iload 5, 2) := by decide +kernel
theorem dX5_costsFromBehind_115 : decode cX5_costsFromBehind 115 = .ok (.iaload, 1) := by decide +kernel
theorem dX5_costsFromBehind_116 : decode cX5_costsFromBehind 116 = .ok (.invokestatic 68, 3) := by decide +kernel
theorem dX5_costsFromBehind_119 : decode cX5_costsFromBehind 119 = .ok (.istore_n 1, 1) := by decide +kernel
theorem dX5_costsFromBehind_120 : decode cX5_costsFromBehind 120 = .ok (.iinc 4 1, 3) := by decide +kernel
theorem dX5_costsFromBehind_123 : decode cX5_costsFromBehind 123 = .ok (.goto (-102), 3) := by decide +kernel
theorem dX5_costsFromBehind_126 : decode cX5_costsFromBehind 126 = .ok (.iinc 2 (-1), 3) := by decide +kernel
theorem dX5_costsFromBehind_129 : decode cX5_costsFromBehind 129 = .ok (.goto (-120), 3) := by decide +kernel
theorem dX5_costsFromBehind_132 : decode cX5_costsFromBehind 132 = .ok (.iload_n 1, 1) := by decide +kernel
theorem dX5_costsFromBehind_133 : decode cX5_costsFromBehind 133 = .ok (.ireturn, 1) := by decide +kernel
theorem dX5_isOpen_0 : decode cX5_isOpen 0 = .ok (.iload_n 1, 1) := by decide +kernel
theorem dX5_isOpen_1 : decode cX5_isOpen 1 = .ok (.aload_n 0, 1) := by decide +kernel
theorem dX5_isOpen_2 : decode cX5_isOpen 2 = .ok (.getfield 34, 3) := by decide +kernel
theorem dX5_isOpen_5 : decode cX5_isOpen 5 = .ok (.if_icmp .ne 14, 3) := by decide +kernel
theorem dX5_isOpen_8 : decode cX5_isOpen 8 = .ok (.aload_n 0, 1) := by decide +kernel
theorem dX5_isOpen_9 : decode cX5_isOpen 9 = .ok (.getfield 37, 3) := by decide +kernel
theorem dX5_isOpen_12 : decode cX5_isOpen 12 = .ok (.iload_n 2, 1) := by decide +kernel
theorem dX5_isOpen_13 : decode cX5_isOpen 13 = .ok (.ishr, 1) := by decide +kernel
theorem dX5_isOpen_14 : decode cX5_isOpen 14 = .ok (.iconst 1, 1) := by decide +kernel
theorem dX5_isOpen_15 : decode cX5_isOpen 15 = .ok (.iand, 1) := by decide +kernel
theorem dX5_isOpen_16 : decode cX5_isOpen 16 = .ok (.ifCond .eq 7, 3) := by decide +kernel
theorem dX5_isOpen_19 : decode cX5_isOpen 19 = .ok (.iconst 1, 1) := by decide +kernel
theorem dX5_isOpen_20 : decode cX5_isOpen 20 = .ok (.goto 4, 3) := by decide +kernel
theorem dX5_isOpen_23 : decode cX5_isOpen 23 = .ok (.iconst 0, 1) := by decide +kernel
theorem dX5_isOpen_24 : decode cX5_isOpen 24 = .ok (.ireturn, 1) := by decide +kernel
theorem dX5_cheapestAt_0 : decode cX5_cheapestAt 0 = .ok (.iconst 0, 1) := by decide +kernel
theorem dX5_cheapestAt_1 : decode cX5_cheapestAt 1 = .ok (.istore_n 3, 1) := by decide +kernel
theorem dX5_cheapestAt_2 : decode cX5_cheapestAt 2 = .ok (.ldc 67, 2) := by decide +kernel
theorem dX5_cheapestAt_4 : decode cX5_cheapestAt 4 = .ok (.istore 4, 2) := by decide +kernel
theorem dX5_cheapestAt_6 : decode cX5_cheapestAt 6 = .ok (.iconst 0, 1) := by decide +kernel
theorem dX5_cheapestAt_7 : decode cX5_cheapestAt 7 = .ok (.istore 5, 2) := by decide +kernel
theorem dX5_cheapestAt_9 : decode cX5_cheapestAt 9 = .ok (.iload 5, 2) := by decide +kernel
theorem dX5_cheapestAt_11 : decode cX5_cheapestAt 11 = .ok (.aload_n 0, 1) := by decide +kernel
theorem dX5_cheapestAt_12 : decode cX5_cheapestAt 12 = .ok (.getfield 28, 3) := by decide +kernel
theorem dX5_cheapestAt_15 : decode cX5_cheapestAt 15 = .ok (.if_icmp .ge 61, 3) := by decide +kernel
theorem dX5_cheapestAt_18 : decode cX5_cheapestAt 18 = .ok (.iload_n 2, 1) := by decide +kernel
theorem dX5_cheapestAt_19 : decode cX5_cheapestAt 19 = .ok (.iconst (-1), 1) := by decide +kernel
theorem dX5_cheapestAt_20 : decode cX5_cheapestAt 20 = .ok (.if_icmp .eq 9, 3) := by decide +kernel
theorem dX5_cheapestAt_23 : decode cX5_cheapestAt 23 = .ok (.iload_n 2, 1) := by decide +kernel
theorem dX5_cheapestAt_24 : decode cX5_cheapestAt 24 = .ok (.iload 5, 2) := by decide +kernel
theorem dX5_cheapestAt_26 : decode cX5_cheapestAt 26 = .ok (.if_icmp .ne 7, 3) := by decide +kernel
theorem dX5_cheapestAt_29 : decode cX5_cheapestAt 29 = .ok (.iconst 0, 1) := by decide +kernel
theorem dX5_cheapestAt_30 : decode cX5_cheapestAt 30 = .ok (.goto 7, 3) := by decide +kernel
theorem dX5_cheapestAt_33 : decode cX5_cheapestAt 33 = .ok (.aload_n 0, 1) := by decide +kernel
theorem dX5_cheapestAt_34 : decode cX5_cheapestAt 34 = .ok (.getfield 31, 3) := by decide +kernel
theorem dX5_cheapestAt_37 : decode cX5_cheapestAt 37 = .ok (.istore 6, 2) := by decide +kernel
theorem dX5_cheapestAt_39 : decode cX5_cheapestAt 39 = .ok (.aload_n 0, 1) := by decide +kernel
theorem dX5_cheapestAt_40 : decode cX5_cheapestAt 40 = .ok (.getfield 15, 3) := by decide +kernel
theorem dX5_cheapestAt_43 : decode cX5_cheapestAt 43 = .ok (.iload_n 1, 1) := by decide +kernel
theorem dX5_cheapestAt_44 : decode cX5_cheapestAt 44 = .ok (.bipush 8, 2) := by decide +kernel
theorem dX5_cheapestAt_46 : decode cX5_cheapestAt 46 = .ok (.imul, 1) := by decide +kernel
theorem dX5_cheapestAt_47 : decode cX5_cheapestAt 47 = .ok (.iload 5, 2) := by decide +kernel
theorem dX5_cheapestAt_49 : decode cX5_cheapestAt 49 = .ok (.iadd, 1) := by decide +kernel
theorem dX5_cheapestAt_50 : decode cX5_cheapestAt 50 = .ok (.iaload, 1) := by decide +kernel
theorem dX5_cheapestAt_51 : decode cX5_cheapestAt 51 = .ok (.iload 6, 2) := by decide +kernel
theorem dX5_cheapestAt_53 : decode cX5_cheapestAt 53 = .ok (.iadd, 1) := by decide +kernel
theorem dX5_cheapestAt_54 : decode cX5_cheapestAt 54 = .ok (.istore 7, 2) := by decide +kernel
theorem dX5_cheapestAt_56 : decode cX5_cheapestAt 56 = .ok (.iload 7, 2) := by decide +kernel
theorem dX5_cheapestAt_58 : decode cX5_cheapestAt 58 = .ok (.iload 4, 2) := by decide +kernel
theorem dX5_cheapestAt_60 : decode cX5_cheapestAt 60 = .ok (.if_icmp .ge 10, 3) := by decide +kernel
theorem dX5_cheapestAt_63 : decode cX5_cheapestAt 63 = .ok (.iload 7, 2) := by decide +kernel
theorem dX5_cheapestAt_65 : decode cX5_cheapestAt 65 = .ok (.istore 4, 2) := by decide +kernel
theorem dX5_cheapestAt_67 : decode cX5_cheapestAt 67 = .ok (.iload 5, 2) := by decide +kernel
theorem dX5_cheapestAt_69 : decode cX5_cheapestAt 69 = .ok (.istore_n 3, 1) := by decide +kernel
theorem dX5_cheapestAt_70 : decode cX5_cheapestAt 70 = .ok (.iinc 5 1, 3) := by decide +kernel
theorem dX5_cheapestAt_73 : decode cX5_cheapestAt 73 = .ok (.goto (-64), 3) := by decide +kernel
theorem dX5_cheapestAt_76 : decode cX5_cheapestAt 76 = .ok (.iload_n 3, 1) := by decide +kernel
theorem dX5_cheapestAt_77 : decode cX5_cheapestAt 77 = .ok (.ireturn, 1) := by decide +kernel
theorem dX5_firstUnlike_0 : decode cX5_firstUnlike 0 = .ok (.iconst 0, 1) := by decide +kernel
theorem dX5_firstUnlike_1 : decode cX5_firstUnlike 1 = .ok (.istore_n 2, 1) := by decide +kernel
theorem dX5_firstUnlike_2 : decode cX5_firstUnlike 2 = .ok (.iload_n 2, 1) := by decide +kernel
theorem dX5_firstUnlike_3 : decode cX5_firstUnlike 3 = .ok (.iload_n 1, 1) := by decide +kernel
theorem dX5_firstUnlike_4 : decode cX5_firstUnlike 4 = .ok (.if_icmp .ge 26, 3) := by decide +kernel
theorem dX5_firstUnlike_7 : decode cX5_firstUnlike 7 = .ok (.aload_n 0, 1) := by decide +kernel
theorem dX5_firstUnlike_8 : decode cX5_firstUnlike 8 = .ok (.getfield 18, 3) := by decide +kernel
theorem dX5_firstUnlike_11 : decode cX5_firstUnlike 11 = .ok (.iload_n 2, 1) := by decide +kernel
theorem dX5_firstUnlike_12 : decode cX5_firstUnlike 12 = .ok (.iaload, 1) := by decide +kernel
theorem dX5_firstUnlike_13 : decode cX5_firstUnlike 13 = .ok (.aload_n 0, 1) := by decide +kernel
theorem dX5_firstUnlike_14 : decode cX5_firstUnlike 14 = .ok (.getfield 21, 3) := by decide +kernel
theorem dX5_firstUnlike_17 : decode cX5_firstUnlike 17 = .ok (.iload_n 2, 1) := by decide +kernel
theorem dX5_firstUnlike_18 : decode cX5_firstUnlike 18 = .ok (.iaload, 1) := by decide +kernel
theorem dX5_firstUnlike_19 : decode cX5_firstUnlike 19 = .ok (.if_icmp .eq 5, 3) := by decide +kernel
theorem dX5_firstUnlike_22 : decode cX5_firstUnlike 22 = .ok (.iload_n 2, 1) := by decide +kernel
theorem dX5_firstUnlike_23 : decode cX5_firstUnlike 23 = .ok (.ireturn, 1) := by decide +kernel
theorem dX5_firstUnlike_24 : decode cX5_firstUnlike 24 = .ok (.iinc 2 1, 3) := by decide +kernel
theorem dX5_firstUnlike_27 : decode cX5_firstUnlike 27 = .ok (.goto (-25), 3) := by decide +kernel
theorem dX5_firstUnlike_30 : decode cX5_firstUnlike 30 = .ok (.iload_n 1, 1) := by decide +kernel
theorem dX5_firstUnlike_31 : decode cX5_firstUnlike 31 = .ok (.ireturn, 1) := by decide +kernel
theorem dX6_init_0 : decode cX6_init 0 = .ok (.aload_n 0, 1) := by decide +kernel
theorem dX6_init_1 : decode cX6_init 1 = .ok (.invokespecial 3, 3) := by decide +kernel
theorem dX6_init_4 : decode cX6_init 4 = .ok (.aload_n 0, 1) := by decide +kernel
theorem dX6_init_5 : decode cX6_init 5 = .ok (.iconst 0, 1) := by decide +kernel
theorem dX6_init_6 : decode cX6_init 6 = .ok (.putfield 9, 3) := by decide +kernel
theorem dX6_init_9 : decode cX6_init 9 = .ok (.iconst 0, 1) := by decide +kernel
theorem dX6_init_10 : decode cX6_init 10 = .ok (.iload_n 1, 1) := by decide +kernel
theorem dX6_init_11 : decode cX6_init 11 = .ok (.bipush 60, 2) := by decide +kernel
theorem dX6_init_13 : decode cX6_init 13 = .ok (.invokestatic 15, 3) := by decide +kernel
theorem dX6_init_16 : decode cX6_init 16 = .ok (.invokestatic 21, 3) := by decide +kernel
theorem dX6_init_19 : decode cX6_init 19 = .ok (.istore_n 2, 1) := by decide +kernel
theorem dX6_init_20 : decode cX6_init 20 = .ok (.aload_n 0, 1) := by decide +kernel
theorem dX6_init_21 : decode cX6_init 21 = .ok (.iload_n 2, 1) := by decide +kernel
theorem dX6_init_22 : decode cX6_init 22 = .ok (.bipush 24, 2) := by decide +kernel
theorem dX6_init_24 : decode cX6_init 24 = .ok (.imul, 1) := by decide +kernel
theorem dX6_init_25 : decode cX6_init 25 = .ok (.newarray .byte, 2) := by decide +kernel
theorem dX6_init_27 : decode cX6_init 27 = .ok (.putfield 24, 3) := by decide +kernel
theorem dX6_init_30 : decode cX6_init 30 = .ok (.aload_n 0, 1) := by decide +kernel
theorem dX6_init_31 : decode cX6_init 31 = .ok (.iload_n 2, 1) := by decide +kernel
theorem dX6_init_32 : decode cX6_init 32 = .ok (.newarray .int, 2) := by decide +kernel
theorem dX6_init_34 : decode cX6_init 34 = .ok (.putfield 28, 3) := by decide +kernel
theorem dX6_init_37 : decode cX6_init 37 = .ok (.return_, 1) := by decide +kernel
set_option maxRecDepth 100000 in
theorem ggX6_placeOf_X6_isSame : GoodIn wsX6_placeOf wsX6_isSame := goodIn_r _ [6, 7, 8, 9, 10, 11, 12, 13, 14, 15, 16, 17, 18, 19] (by rfl) (by decide +kernel)
set_option maxRecDepth 20000 in
theorem gX6_placeOf_X6_isSame : GoodIn wsX6_placeOf (wsV RX6 32 RX6 yX6_isSame wsX6_isSame) := goodIn_app (goodIn_of _ (by decide +kernel)) ggX6_placeOf_X6_isSame
theorem dX6_placeOf_0 : decode cX6_placeOf 0 = .ok (.iconst 0, 1) := by decide +kernel
theorem dX6_placeOf_1 : decode cX6_placeOf 1 = .ok (.istore_n 3, 1) := by decide +kernel
theorem dX6_placeOf_2 : decode cX6_placeOf 2 = .ok (.iload_n 3, 1) := by decide +kernel
theorem dX6_placeOf_3 : decode cX6_placeOf 3 = .ok (.aload_n 0, 1) := by decide +kernel
theorem dX6_placeOf_4 : decode cX6_placeOf 4 = .ok (.getfield 9, 3) := by decide +kernel
theorem dX6_placeOf_7 : decode cX6_placeOf 7 = .ok (.if_icmp .ge 21, 3) := by decide +kernel
theorem dX6_placeOf_10 : decode cX6_placeOf 10 = .ok (.aload_n 0, 1) := by decide +kernel
theorem dX6_placeOf_11 : decode cX6_placeOf 11 = .ok (.iload_n 3, 1) := by decide +kernel
theorem dX6_placeOf_12 : decode cX6_placeOf 12 = .ok (.aload_n 1, 1) := by decide +kernel
theorem dX6_placeOf_13 : decode cX6_placeOf 13 = .ok (.iload_n 2, 1) := by decide +kernel
theorem dX6_placeOf_14 : decode cX6_placeOf 14 = .ok (.invokevirtual 32, 3) := by decide +kernel
theorem dX6_placeOf_17 : decode cX6_placeOf 17 = .ok (.ifCond .eq 5, 3) := by decide +kernel
theorem dX6_placeOf_20 : decode cX6_placeOf 20 = .ok (.iload_n 3, 1) := by decide +kernel
theorem dX6_placeOf_21 : decode cX6_placeOf 21 = .ok (.ireturn, 1) := by decide +kernel
theorem dX6_placeOf_22 : decode cX6_placeOf 22 = .ok (.iinc 3 1, 3) := by decide +kernel
theorem dX6_placeOf_25 : decode cX6_placeOf 25 = .ok (.goto (-23), 3) := by decide +kernel
theorem dX6_placeOf_28 : decode cX6_placeOf 28 = .ok (.iconst (-1), 1) := by decide +kernel
theorem dX6_placeOf_29 : decode cX6_placeOf 29 = .ok (.ireturn, 1) := by decide +kernel
theorem dX6_take_0 : decode cX6_take 0 = .ok (.aload_n 1, 1) := by decide +kernel
theorem dX6_take_1 : decode cX6_take 1 = .ok (.getfield 36, 3) := by decide +kernel
theorem dX6_take_4 : decode cX6_take 4 = .ok (.iload_n 2, 1) := by decide +kernel
theorem dX6_take_5 : decode cX6_take 5 = .ok (.iaload, 1) := by decide +kernel
theorem dX6_take_6 : decode cX6_take 6 = .ok (.istore_n 3, 1) := by decide +kernel
theorem dX6_take_7 : decode cX6_take 7 = .ok (.aload_n 0, 1) := by decide +kernel
theorem dX6_take_8 : decode cX6_take 8 = .ok (.getfield 9, 3) := by decide +kernel
theorem dX6_take_11 : decode cX6_take 11 = .ok (.aload_n 0, 1) := by decide +kernel
theorem dX6_take_12 : decode cX6_take 12 = .ok (.getfield 28, 3) := by decide +kernel
theorem dX6_take_15 : decode cX6_take 15 = .ok (.arraylength, 1) := by decide +kernel
theorem dX6_take_16 : decode cX6_take 16 = .ok (.if_icmp .ge 9, 3) := by decide +kernel
theorem dX6_take_19 : decode cX6_take 19 = .ok (.iload_n 3, 1) := by decide +kernel
theorem dX6_take_20 : decode cX6_take 20 = .ok (.bipush 24, 2) := by decide +kernel
theorem dX6_take_22 : decode cX6_take 22 = .ok (.if_icmp .le 5, 3) := by decide +kernel
theorem dX6_take_25 : decode cX6_take 25 = .ok (.iconst (-1), 1) := by decide +kernel
theorem dX6_take_26 : decode cX6_take 26 = .ok (.ireturn, 1) := by decide +kernel
theorem dX6_take_27 : decode cX6_take 27 = .ok (.aload_n 1, 1) := by decide +kernel
theorem dX6_take_28 : decode cX6_take 28 = .ok (.getfield 39, 3) := by decide +kernel
theorem dX6_take_31 : decode cX6_take 31 = .ok (.aload_n 1, 1) := by decide +kernel
theorem dX6_take_32 : decode cX6_take 32 = .ok (.getfield 42, 3) := by decide +kernel
theorem dX6_take_35 : decode cX6_take 35 = .ok (.iload_n 2, 1) := by decide +kernel
theorem dX6_take_36 : decode cX6_take 36 = .ok (.iaload, 1) := by decide +kernel
theorem dX6_take_37 : decode cX6_take 37 = .ok (.aload_n 0, 1) := by decide +kernel
theorem dX6_take_38 : decode cX6_take 38 = .ok (.getfield 24, 3) := by decide +kernel
theorem dX6_take_41 : decode cX6_take 41 = .ok (.aload_n 0, 1) := by decide +kernel
theorem dX6_take_42 : decode cX6_take 42 = .ok (.getfield 9, 3) := by decide +kernel
theorem dX6_take_45 : decode cX6_take 45 = .ok (.bipush 24, 2) := by decide +kernel
theorem dX6_take_47 : decode cX6_take 47 = .ok (.imul, 1) := by decide +kernel
theorem dX6_take_48 : decode cX6_take 48 = .ok (.iload_n 3, 1) := by decide +kernel
theorem dX6_take_49 : decode cX6_take 49 = .ok (.invokestatic 45, 3) := by decide +kernel
theorem dX6_take_52 : decode cX6_take 52 = .ok (.aload_n 0, 1) := by decide +kernel
theorem dX6_take_53 : decode cX6_take 53 = .ok (.getfield 28, 3) := by decide +kernel
theorem dX6_take_56 : decode cX6_take 56 = .ok (.aload_n 0, 1) := by decide +kernel
theorem dX6_take_57 : decode cX6_take 57 = .ok (.getfield 9, 3) := by decide +kernel
theorem dX6_take_60 : decode cX6_take 60 = .ok (.iload_n 3, 1) := by decide +kernel
theorem dX6_take_61 : decode cX6_take 61 = .ok (.iastore, 1) := by decide +kernel
theorem dX6_take_62 : decode cX6_take 62 = .ok (.aload_n 0, 1) := by decide +kernel
theorem dX6_take_63 : decode cX6_take 63 = .ok (.dup, 1) := by decide +kernel
theorem dX6_take_64 : decode cX6_take 64 = .ok (.getfield 9, 3) := by decide +kernel
theorem dX6_take_67 : decode cX6_take 67 = .ok (.iconst 1, 1) := by decide +kernel
theorem dX6_take_68 : decode cX6_take 68 = .ok (.iadd, 1) := by decide +kernel
theorem dX6_take_69 : decode cX6_take 69 = .ok (.putfield 9, 3) := by decide +kernel
theorem dX6_take_72 : decode cX6_take 72 = .ok (.aload_n 0, 1) := by decide +kernel
theorem dX6_take_73 : decode cX6_take 73 = .ok (.getfield 9, 3) := by decide +kernel
theorem dX6_take_76 : decode cX6_take 76 = .ok (.iconst 1, 1) := by decide +kernel
theorem dX6_take_77 : decode cX6_take 77 = .ok (.isub, 1) := by decide +kernel
theorem dX6_take_78 : decode cX6_take 78 = .ok (.ireturn, 1) := by decide +kernel
theorem dX6_isSame_0 : decode cX6_isSame 0 = .ok (.aload_n 0, 1) := by decide +kernel
theorem dX6_isSame_1 : decode cX6_isSame 1 = .ok (.getfield 28, 3) := by decide +kernel
theorem dX6_isSame_4 : decode cX6_isSame 4 = .ok (.iload_n 1, 1) := by decide +kernel
theorem dX6_isSame_5 : decode cX6_isSame 5 = .ok (.iaload, 1) := by decide +kernel
theorem dX6_isSame_6 : decode cX6_isSame 6 = .ok (.istore 4, 2) := by decide +kernel
theorem dX6_isSame_8 : decode cX6_isSame 8 = .ok (.aload_n 2, 1) := by decide +kernel
theorem dX6_isSame_9 : decode cX6_isSame 9 = .ok (.getfield 36, 3) := by decide +kernel
theorem dX6_isSame_12 : decode cX6_isSame 12 = .ok (.iload_n 3, 1) := by decide +kernel
theorem dX6_isSame_13 : decode cX6_isSame 13 = .ok (.iaload, 1) := by decide +kernel
theorem dX6_isSame_14 : decode cX6_isSame 14 = .ok (.iload 4, 2) := by decide +kernel
theorem dX6_isSame_16 : decode cX6_isSame 16 = .ok (.if_icmp .eq 5, 3) := by decide +kernel
theorem dX6_isSame_19 : decode cX6_isSame 19 = .ok (.iconst 0, 1) := by decide +kernel
theorem dX6_isSame_20 : decode cX6_isSame 20 = .ok (.ireturn, 1) := by decide +kernel
theorem dX6_isSame_21 : decode cX6_isSame 21 = .ok (.aload_n 2, 1) := by decide +kernel
theorem dX6_isSame_22 : decode cX6_isSame 22 = .ok (.getfield 42, 3) := by decide +kernel
theorem dX6_isSame_25 : decode cX6_isSame 25 = .ok (.iload_n 3, 1) := by decide +kernel
theorem dX6_isSame_26 : decode cX6_isSame 26 = .ok (.iaload, 1) := by decide +kernel
theorem dX6_isSame_27 : decode cX6_isSame 27 = .ok (.istore 5, 2) := by decide +kernel
theorem dX6_isSame_29 : decode cX6_isSame 29 = .ok (.iconst 0, 1) := by decide +kernel
theorem dX6_isSame_30 : decode cX6_isSame 30 = .ok (.istore 6, 2) := by decide +kernel
theorem dX6_isSame_32 : decode cX6_isSame 32 = .ok (.iload 6, 2) := by decide +kernel
theorem dX6_isSame_34 : decode cX6_isSame 34 = .ok (.iload 4, 2) := by decide +kernel
theorem dX6_isSame_36 : decode cX6_isSame 36 = .ok (.if_icmp .ge 36, 3) := by decide +kernel
theorem dX6_isSame_39 : decode cX6_isSame 39 = .ok (.aload_n 0, 1) := by decide +kernel
theorem dX6_isSame_40 : decode cX6_isSame 40 = .ok (.getfield 24, 3) := by decide +kernel
theorem dX6_isSame_43 : decode cX6_isSame 43 = .ok (.iload_n 1, 1) := by decide +kernel
theorem dX6_isSame_44 : decode cX6_isSame 44 = .ok (.bipush 24, 2) := by decide +kernel
theorem dX6_isSame_46 : decode cX6_isSame 46 = .ok (.imul, 1) := by decide +kernel
theorem dX6_isSame_47 : decode cX6_isSame 47 = .ok (.iload 6, 2) := by decide +kernel
theorem dX6_isSame_49 : decode cX6_isSame 49 = .ok (.iadd, 1) := by decide +kernel
theorem dX6_isSame_50 : decode cX6_isSame 50 = .ok (.baload, 1) := by decide +kernel
theorem dX6_isSame_51 : decode cX6_isSame 51 = .ok (.aload_n 2, 1) := by decide +kernel
theorem dX6_isSame_52 : decode cX6_isSame 52 = .ok (.getfield 39, 3) := by decide +kernel
theorem dX6_isSame_55 : decode cX6_isSame 55 = .ok (.iload 5, 2) := by decide +kernel
theorem dX6_isSame_57 : decode cX6_isSame 57 = .ok (.iload 6, 2) := by decide +kernel
theorem dX6_isSame_59 : decode cX6_isSame 59 = .ok (.iadd, 1) := by decide +kernel
theorem dX6_isSame_60 : decode cX6_isSame 60 = .ok (.baload, 1) := by decide +kernel
theorem dX6_isSame_61 : decode cX6_isSame 61 = .ok (.if_icmp .eq 5, 3) := by decide +kernel
theorem dX6_isSame_64 : decode cX6_isSame 64 = .ok (.iconst 0, 1) := by decide +kernel
theorem dX6_isSame_65 : decode cX6_isSame 65 = .ok (.ireturn, 1) := by decide +kernel
theorem dX6_isSame_66 : decode cX6_isSame 66 = .ok (.iinc 6 1, 3) := by decide +kernel
theorem dX6_isSame_69 : decode cX6_isSame 69 = .ok (.goto (-37), 3) := by decide +kernel
theorem dX6_isSame_72 : decode cX6_isSame 72 = .ok (.iconst 1, 1) := by decide +kernel
theorem dX6_isSame_73 : decode cX6_isSame 73 = .ok (.ireturn, 1) := by decide +kernel
set_option maxRecDepth 100000 in
theorem ggX7_init_X4_init : GoodIn wsX7_init wsX4_init := goodIn_r _ [44, 45, 2, 3, 19, 46, 47, 113, 114] (by rfl) (by decide +kernel)
set_option maxRecDepth 20000 in
theorem gX7_init_X4_init_n19 : GoodIn wsX7_init (wsX4_init) := ggX7_init_X4_init
set_option maxRecDepth 100000 in
theorem ggX7_init_X6_init : GoodIn wsX7_init wsX6_init := goodIn_r _ [50, 51, 2, 3, 52, 53, 54, 55, 56, 57, 58, 59, 4, 60, 19, 61, 115, 116, 117] (by rfl) (by decide +kernel)
set_option maxRecDepth 20000 in
theorem gX7_init_X6_init : GoodIn wsX7_init (wsX6_init) := ggX7_init_X6_init
set_option maxRecDepth 100000 in
theorem ggX7_init_X2_init : GoodIn wsX7_init wsX2_init := goodIn_r _ [63, 64, 2, 3, 4, 65, 19, 66, 67, 68, 69, 118, 119, 120, 121, 122] (by rfl) (by decide +kernel)
set_option maxRecDepth 20000 in
theorem gX7_init_X2_init_n60 : GoodIn wsX7_init (wsX2_init) := ggX7_init_X2_init
set_option maxRecDepth 100000 in
theorem ggX7_init_X5_init : GoodIn wsX7_init wsX5_init := goodIn_r _ [71, 72, 2, 3, 19, 73, 74, 75, 76, 77, 78, 79, 80, 81, 123, 124, 125, 126, 127, 128, 129, 130, 131] (by rfl) (by decide +kernel)
set_option maxRecDepth 20000 in
theorem gX7_init_X5_init_n74 : GoodIn wsX7_init (wsX5_init) := ggX7_init_X5_init
set_option maxRecDepth 100000 in
theorem ggX7_init_X1_init : GoodIn wsX7_init wsX1_init := goodIn_r _ [83, 84, 2, 3, 19, 85, 86, 87, 132, 133, 134] (by rfl) (by decide +kernel)
set_option maxRecDepth 20000 in
theorem gX7_init_X1_init_n81 : GoodIn wsX7_init (wsX1_init) := ggX7_init_X1_init
set_option maxRecDepth 100000 in
theorem ggX7_init_X3_init : GoodIn wsX7_init wsX3_init := goodIn_r _ [89, 90, 2, 3, 19, 91, 92, 93, 94, 135, 136, 137] (by rfl) (by decide +kernel)
set_option maxRecDepth 20000 in
theorem gX7_init_X3_init_n88 : GoodIn wsX7_init (wsX3_init) := ggX7_init_X3_init
theorem dX7_init_0 : decode cX7_init 0 = .ok (.aload_n 0, 1) := by decide +kernel
theorem dX7_init_1 : decode cX7_init 1 = .ok (.invokespecial 1, 3) := by decide +kernel
theorem dX7_init_4 : decode cX7_init 4 = .ok (.aload_n 0, 1) := by decide +kernel
theorem dX7_init_5 : decode cX7_init 5 = .ok (.sipush 600, 3) := by decide +kernel
theorem dX7_init_8 : decode cX7_init 8 = .ok (.newarray .byte, 2) := by decide +kernel
theorem dX7_init_10 : decode cX7_init 10 = .ok (.putfield 9, 3) := by decide +kernel
theorem dX7_init_13 : decode cX7_init 13 = .ok (.aload_n 0, 1) := by decide +kernel
theorem dX7_init_14 : decode cX7_init 14 = .ok (.iconst 0, 1) := by decide +kernel
theorem dX7_init_15 : decode cX7_init 15 = .ok (.putfield 13, 3) := by decide +kernel
theorem dX7_init_18 : decode cX7_init 18 = .ok (.aload_n 0, 1) := by decide +kernel
theorem dX7_init_19 : decode cX7_init 19 = .ok (.new 17, 3) := by decide +kernel
theorem dX7_init_22 : decode cX7_init 22 = .ok (.dup, 1) := by decide +kernel
theorem dX7_init_23 : decode cX7_init 23 = .ok (.invokespecial 19, 3) := by decide +kernel
theorem dX7_init_26 : decode cX7_init 26 = .ok (.putfield 20, 3) := by decide +kernel
theorem dX7_init_29 : decode cX7_init 29 = .ok (.aload_n 0, 1) := by decide +kernel
theorem dX7_init_30 : decode cX7_init 30 = .ok (.bipush 100, 2) := by decide +kernel
theorem dX7_init_32 : decode cX7_init 32 = .ok (.anewarray 24, 3) := by decide +kernel
theorem dX7_init_35 : decode cX7_init 35 = .ok (.putfield 26, 3) := by decide +kernel
theorem dX7_init_38 : decode cX7_init 38 = .ok (.aload_n 0, 1) := by decide +kernel
theorem dX7_init_39 : decode cX7_init 39 = .ok (.iconst 0, 1) := by decide +kernel
theorem dX7_init_40 : decode cX7_init 40 = .ok (.putfield 30, 3) := by decide +kernel
theorem dX7_init_43 : decode cX7_init 43 = .ok (.aload_n 0, 1) := by decide +kernel
theorem dX7_init_44 : decode cX7_init 44 = .ok (.iconst 0, 1) := by decide +kernel
theorem dX7_init_45 : decode cX7_init 45 = .ok (.putfield 33, 3) := by decide +kernel
theorem dX7_init_48 : decode cX7_init 48 = .ok (.aload_n 0, 1) := by decide +kernel
theorem dX7_init_49 : decode cX7_init 49 = .ok (.new 36, 3) := by decide +kernel
theorem dX7_init_52 : decode cX7_init 52 = .ok (.dup, 1) := by decide +kernel
theorem dX7_init_53 : decode cX7_init 53 = .ok (.bipush 60, 2) := by decide +kernel
theorem dX7_init_55 : decode cX7_init 55 = .ok (.invokespecial 38, 3) := by decide +kernel
theorem dX7_init_58 : decode cX7_init 58 = .ok (.putfield 41, 3) := by decide +kernel
theorem dX7_init_61 : decode cX7_init 61 = .ok (.aload_n 0, 1) := by decide +kernel
theorem dX7_init_62 : decode cX7_init 62 = .ok (.bipush 60, 2) := by decide +kernel
theorem dX7_init_64 : decode cX7_init 64 = .ok (.newarray .int, 2) := by decide +kernel
theorem dX7_init_66 : decode cX7_init 66 = .ok (.putfield 45, 3) := by decide +kernel
theorem dX7_init_69 : decode cX7_init 69 = .ok (.aload_n 0, 1) := by decide +kernel
theorem dX7_init_70 : decode cX7_init 70 = .ok (.new 36, 3) := by decide +kernel
theorem dX7_init_73 : decode cX7_init 73 = .ok (.dup, 1) := by decide +kernel
theorem dX7_init_74 : decode cX7_init 74 = .ok (.bipush 30, 2) := by decide +kernel
theorem dX7_init_76 : decode cX7_init 76 = .ok (.invokespecial 38, 3) := by decide +kernel
theorem dX7_init_79 : decode cX7_init 79 = .ok (.putfield 49, 3) := by decide +kernel
theorem dX7_init_82 : decode cX7_init 82 = .ok (.aload_n 0, 1) := by decide +kernel
theorem dX7_init_83 : decode cX7_init 83 = .ok (.sipush 200, 3) := by decide +kernel
theorem dX7_init_86 : decode cX7_init 86 = .ok (.putfield 52, 3) := by decide +kernel
theorem dX7_init_89 : decode cX7_init 89 = .ok (.aload_n 0, 1) := by decide +kernel
theorem dX7_init_90 : decode cX7_init 90 = .ok (.bipush 100, 2) := by decide +kernel
theorem dX7_init_92 : decode cX7_init 92 = .ok (.putfield 55, 3) := by decide +kernel
theorem dX7_init_95 : decode cX7_init 95 = .ok (.aload_n 0, 1) := by decide +kernel
theorem dX7_init_96 : decode cX7_init 96 = .ok (.new 58, 3) := by decide +kernel
theorem dX7_init_99 : decode cX7_init 99 = .ok (.dup, 1) := by decide +kernel
theorem dX7_init_100 : decode cX7_init 100 = .ok (.invokespecial 60, 3) := by decide +kernel
theorem dX7_init_103 : decode cX7_init 103 = .ok (.putfield 61, 3) := by decide +kernel
theorem dX7_init_106 : decode cX7_init 106 = .ok (.aload_n 0, 1) := by decide +kernel
theorem dX7_init_107 : decode cX7_init 107 = .ok (.new 58, 3) := by decide +kernel
theorem dX7_init_110 : decode cX7_init 110 = .ok (.dup, 1) := by decide +kernel
theorem dX7_init_111 : decode cX7_init 111 = .ok (.invokespecial 60, 3) := by decide +kernel
theorem dX7_init_114 : decode cX7_init 114 = .ok (.putfield 65, 3) := by decide +kernel
theorem dX7_init_117 : decode cX7_init 117 = .ok (.aload_n 0, 1) := by decide +kernel
theorem dX7_init_118 : decode cX7_init 118 = .ok (.iconst 0, 1) := by decide +kernel
theorem dX7_init_119 : decode cX7_init 119 = .ok (.putfield 68, 3) := by decide +kernel
theorem dX7_init_122 : decode cX7_init 122 = .ok (.aload_n 0, 1) := by decide +kernel
theorem dX7_init_123 : decode cX7_init 123 = .ok (.new 72, 3) := by decide +kernel
theorem dX7_init_126 : decode cX7_init 126 = .ok (.dup, 1) := by decide +kernel
theorem dX7_init_127 : decode cX7_init 127 = .ok (.invokespecial 74, 3) := by decide +kernel
theorem dX7_init_130 : decode cX7_init 130 = .ok (.putfield 75, 3) := by decide +kernel
theorem dX7_init_133 : decode cX7_init 133 = .ok (.aload_n 0, 1) := by decide +kernel
theorem dX7_init_134 : decode cX7_init 134 = .ok (.new 79, 3) := by decide +kernel
theorem dX7_init_137 : decode cX7_init 137 = .ok (.dup, 1) := by decide +kernel
theorem dX7_init_138 : decode cX7_init 138 = .ok (.invokespecial 81, 3) := by decide +kernel
theorem dX7_init_141 : decode cX7_init 141 = .ok (.putfield 82, 3) := by decide +kernel
theorem dX7_init_144 : decode cX7_init 144 = .ok (.aload_n 0, 1) := by decide +kernel
theorem dX7_init_145 : decode cX7_init 145 = .ok (.new 86, 3) := by decide +kernel
theorem dX7_init_148 : decode cX7_init 148 = .ok (.dup, 1) := by decide +kernel
theorem dX7_init_149 : decode cX7_init 149 = .ok (.invokespecial 88, 3) := by decide +kernel
theorem dX7_init_152 : decode cX7_init 152 = .ok (.putfield 89, 3) := by decide +kernel
theorem dX7_init_155 : decode cX7_init 155 = .ok (.aload_n 0, 1) := by decide +kernel
theorem dX7_init_156 : decode cX7_init 156 = .ok (.iconst 0, 1) := by decide +kernel
theorem dX7_init_157 : decode cX7_init 157 = .ok (.putfield 93, 3) := by decide +kernel
theorem dX7_init_160 : decode cX7_init 160 = .ok (.return_, 1) := by decide +kernel
set_option maxRecDepth 100000 in
theorem ggX7_feed_X7_putBytes : GoodIn wsX7_feed wsX7_putBytes := goodIn_r _ [6, 7, 1, 8, 9, 5, 10, 11, 12, 13, 14, 15, 16, 17, 18, 19, 20, 21, 22, 23, 24, 25, 26, 27, 28] (by rfl) (by decide +kernel)
set_option maxRecDepth 20000 in
theorem gX7_feed_X7_putBytes : GoodIn wsX7_feed (wsV RX7 96 RX7 yX7_putBytes wsX7_putBytes) := goodIn_app (goodIn_of _ (by decide +kernel)) ggX7_feed_X7_putBytes
theorem dX7_feed_0 : decode cX7_feed 0 = .ok (.aload_n 0, 1) := by decide +kernel
theorem dX7_feed_1 : decode cX7_feed 1 = .ok (.getfield 13, 3) := by decide +kernel
theorem dX7_feed_4 : decode cX7_feed 4 = .ok (.sipush 580, 3) := by decide +kernel
theorem dX7_feed_7 : decode cX7_feed 7 = .ok (.if_icmp .le 5, 3) := by decide +kernel
theorem dX7_feed_10 : decode cX7_feed 10 = .ok (.iconst (-1), 1) := by decide +kernel
theorem dX7_feed_11 : decode cX7_feed 11 = .ok (.ireturn, 1) := by decide +kernel
theorem dX7_feed_12 : decode cX7_feed 12 = .ok (.aload_n 0, 1) := by decide +kernel
theorem dX7_feed_13 : decode cX7_feed 13 = .ok (.iload_n 1, 1) := by decide +kernel
theorem dX7_feed_14 : decode cX7_feed 14 = .ok (.invokevirtual 96, 3) := by decide +kernel
theorem dX7_feed_17 : decode cX7_feed 17 = .ok (.aload_n 0, 1) := by decide +kernel
theorem dX7_feed_18 : decode cX7_feed 18 = .ok (.iload_n 2, 1) := by decide +kernel
theorem dX7_feed_19 : decode cX7_feed 19 = .ok (.invokevirtual 96, 3) := by decide +kernel
theorem dX7_feed_22 : decode cX7_feed 22 = .ok (.aload_n 0, 1) := by decide +kernel
theorem dX7_feed_23 : decode cX7_feed 23 = .ok (.iload_n 3, 1) := by decide +kernel
theorem dX7_feed_24 : decode cX7_feed 24 = .ok (.invokevirtual 96, 3) := by decide +kernel
theorem dX7_feed_27 : decode cX7_feed 27 = .ok (.aload_n 0, 1) := by decide +kernel
theorem dX7_feed_28 : decode cX7_feed 28 = .ok (.iload 4, 2) := by decide +kernel
theorem dX7_feed_30 : decode cX7_feed 30 = .ok (.invokevirtual 96, 3) := by decide +kernel
theorem dX7_feed_33 : decode cX7_feed 33 = .ok (.aload_n 0, 1) := by decide +kernel
theorem dX7_feed_34 : decode cX7_feed 34 = .ok (.iload 5, 2) := by decide +kernel
theorem dX7_feed_36 : decode cX7_feed 36 = .ok (.invokevirtual 96, 3) := by decide +kernel
theorem dX7_feed_39 : decode cX7_feed 39 = .ok (.aload_n 0, 1) := by decide +kernel
theorem dX7_feed_40 : decode cX7_feed 40 = .ok (.getfield 13, 3) := by decide +kernel
theorem dX7_feed_43 : decode cX7_feed 43 = .ok (.ireturn, 1) := by decide +kernel
set_option maxRecDepth 100000 in
theorem ggX7_tongue_X7_refuse : GoodIn wsX7_tongue wsX7_refuse := goodIn_r _ [7, 8, 13, 14, 15, 16, 17, 18, 19, 20, 21, 22, 23, 24, 25, 26, 27, 28, 29, 30] (by rfl) (by decide +kernel)
set_option maxRecDepth 20000 in
theorem gX7_tongue_X7_refuse : GoodIn wsX7_tongue (wsV RX7 102 RX7 yX7_refuse wsX7_refuse) := goodIn_app (goodIn_of _ (by decide +kernel)) ggX7_tongue_X7_refuse
set_option maxRecDepth 100000 in
theorem ggX7_tongue_X7_grant : GoodIn wsX7_tongue wsX7_grant := goodIn_r _ [12, 8, 13, 14, 15, 16, 17, 18, 19, 20, 21, 22, 23, 24, 25, 26, 27, 28, 29, 30] (by rfl) (by decide +kernel)
set_option maxRecDepth 20000 in
theorem gX7_tongue_X7_grant : GoodIn wsX7_tongue (wsV RX7 106 RX7 yX7_grant wsX7_grant) := goodIn_app (goodIn_of _ (by decide +kernel)) ggX7_tongue_X7_grant
theorem dX7_tongue_0 : decode cX7_tongue 0 = .ok (.aload_n 0, 1) := by decide +kernel
theorem dX7_tongue_1 : decode cX7_tongue 1 = .ok (.getfield 20, 3) := by decide +kernel
theorem dX7_tongue_4 : decode cX7_tongue 4 = .ok (.getfield 99, 3) := by decide +kernel
theorem dX7_tongue_7 : decode cX7_tongue 7 = .ok (.bipush 8, 2) := by decide +kernel
theorem dX7_tongue_9 : decode cX7_tongue 9 = .ok (.if_icmp .lt 9, 3) := by decide +kernel
theorem dX7_tongue_12 : decode cX7_tongue 12 = .ok (.aload_n 0, 1) := by decide +kernel
theorem dX7_tongue_13 : decode cX7_tongue 13 = .ok (.iconst 3, 1) := by decide +kernel
theorem dX7_tongue_14 : decode cX7_tongue 14 = .ok (.invokevirtual 102, 3) := by decide +kernel
theorem dX7_tongue_17 : decode cX7_tongue 17 = .ok (.ireturn, 1) := by decide +kernel
theorem dX7_tongue_18 : decode cX7_tongue 18 = .ok (.aload_n 0, 1) := by decide +kernel
theorem dX7_tongue_19 : decode cX7_tongue 19 = .ok (.getfield 20, 3) := by decide +kernel
theorem dX7_tongue_22 : decode cX7_tongue 22 = .ok (.dup, 1) := by decide +kernel
theorem dX7_tongue_23 : decode cX7_tongue 23 = .ok (.getfield 99, 3) := by decide +kernel
theorem dX7_tongue_26 : decode cX7_tongue 26 = .ok (.iconst 1, 1) := by decide +kernel
theorem dX7_tongue_27 : decode cX7_tongue 27 = .ok (.iadd, 1) := by decide +kernel
theorem dX7_tongue_28 : decode cX7_tongue 28 = .ok (.putfield 99, 3) := by decide +kernel
theorem dX7_tongue_31 : decode cX7_tongue 31 = .ok (.aload_n 0, 1) := by decide +kernel
theorem dX7_tongue_32 : decode cX7_tongue 32 = .ok (.aload_n 0, 1) := by decide +kernel
theorem dX7_tongue_33 : decode cX7_tongue 33 = .ok (.getfield 20, 3) := by decide +kernel
theorem dX7_tongue_36 : decode cX7_tongue 36 = .ok (.getfield 99, 3) := by decide +kernel
theorem dX7_tongue_39 : decode cX7_tongue 39 = .ok (.iconst 1, 1) := by decide +kernel
theorem dX7_tongue_40 : decode cX7_tongue 40 = .ok (.isub, 1) := by decide +kernel
theorem dX7_tongue_41 : decode cX7_tongue 41 = .ok (.invokevirtual 106, 3) := by decide +kernel
theorem dX7_tongue_44 : decode cX7_tongue 44 = .ok (.ireturn, 1) := by decide +kernel
set_option maxRecDepth 100000 in
theorem ggX7_learn_X4_has : GoodIn wsX7_learn wsX4_has := goodIn_r _ [14, 15, 151, 152] (by rfl) (by decide +kernel)
set_option maxRecDepth 20000 in
theorem gX7_learn_X4_has : GoodIn wsX7_learn (wsV RX7 109 RX4 yX4_has wsX4_has) := goodIn_app (goodIn_of _ (by decide +kernel)) ggX7_learn_X4_has
set_option maxRecDepth 100000 in
theorem ggX7_learn_X7_refuse : GoodIn wsX7_learn wsX7_refuse := goodIn_r _ [20, 21, 130, 131, 132, 133, 134, 135, 136, 137, 138, 139, 140, 141, 142, 143, 144, 145, 146, 147] (by rfl) (by decide +kernel)
set_option maxRecDepth 20000 in
theorem gX7_learn_X7_refuse : GoodIn wsX7_learn (wsV RX7 102 RX7 yX7_refuse wsX7_refuse) := goodIn_app (goodIn_of _ (by decide +kernel)) ggX7_learn_X7_refuse
set_option maxRecDepth 100000 in
theorem ggX7_learn_X7_isOnTape : GoodIn wsX7_learn wsX7_isOnTape := goodIn_r _ [25, 26, 130, 131, 132, 133, 134, 135, 136, 137, 138, 139, 140, 141, 142, 143, 144, 145, 146, 147] (by rfl) (by decide +kernel)
set_option maxRecDepth 20000 in
theorem gX7_learn_X7_isOnTape : GoodIn wsX7_learn (wsV RX7 113 RX7 yX7_isOnTape wsX7_isOnTape) := goodIn_app (goodIn_of _ (by decide +kernel)) ggX7_learn_X7_isOnTape
set_option maxRecDepth 100000 in
theorem ggX7_learn_X7_draftFromTape : GoodIn wsX7_learn wsX7_draftFromTape := goodIn_r _ [30, 31, 32, 33, 34, 35, 36, 37, 38, 39, 40, 41, 19, 42, 26, 43, 44, 45, 46, 47, 48, 49, 50, 51, 52, 53, 54, 55, 56, 57, 58, 59, 60, 61, 62, 63, 64, 65, 66, 67, 68, 69, 70, 71, 72, 73, 130, 131, 132, 133, 134, 135, 136, 137, 138, 139, 140, 141, 142, 143, 144, 145, 146, 147, 153, 154, 155, 156, 157] (by rfl) (by decide +kernel)
set_option maxRecDepth 20000 in
theorem gX7_learn_X7_draftFromTape : GoodIn wsX7_learn (wsV RX7 116 RX7 yX7_draftFromTape wsX7_draftFromTape) := goodIn_app (goodIn_of _ (by decide +kernel)) ggX7_learn_X7_draftFromTape
set_option maxRecDepth 100000 in
theorem ggX7_learn_X7_freePlace : GoodIn wsX7_learn wsX7_freePlace := goodIn_r _ [77, 6, 130, 131, 132, 133, 134, 135, 136, 137, 138, 139, 140, 141, 142, 143, 144, 145, 146, 147] (by rfl) (by decide +kernel)
set_option maxRecDepth 20000 in
theorem gX7_learn_X7_freePlace : GoodIn wsX7_learn (wsV RX7 119 RX7 yX7_freePlace wsX7_freePlace) := goodIn_app (goodIn_of _ (by decide +kernel)) ggX7_learn_X7_freePlace
set_option maxRecDepth 100000 in
theorem ggX7_learn_X7_trailOfDraft : GoodIn wsX7_learn wsX7_trailOfDraft := goodIn_r _ [81, 31, 82, 83, 84, 85, 86, 87, 50, 51, 52, 88, 89, 90, 19, 91, 92, 93, 94, 95, 35, 96, 48, 57, 97, 98, 99, 100, 101, 102, 103, 104, 105, 106, 107, 108, 109, 110, 111, 130, 131, 132, 133, 134, 135, 136, 137, 138, 139, 140, 141, 142, 143, 144, 145, 146, 147, 153, 154, 155, 156, 157, 158, 159, 160] (by rfl) (by decide +kernel)
set_option maxRecDepth 20000 in
theorem gX7_learn_X7_trailOfDraft : GoodIn wsX7_learn (wsV RX7 123 RX7 yX7_trailOfDraft wsX7_trailOfDraft) := goodIn_app (goodIn_of _ (by decide +kernel)) ggX7_learn_X7_trailOfDraft
set_option maxRecDepth 100000 in
theorem ggX7_learn_X0_init : GoodIn wsX7_learn wsX0_init := goodIn_r _ [114, 115, 116, 117, 118, 119, 120, 148, 149, 150] (by rfl) (by decide +kernel)
set_option maxRecDepth 20000 in
theorem gX7_learn_X0_init : GoodIn wsX7_learn (wsX0_init) := ggX7_learn_X0_init
set_option maxRecDepth 100000 in
theorem ggX7_learn_X4_countTrail : GoodIn wsX7_learn wsX4_countTrail := goodIn_r _ [124, 125, 151, 152] (by rfl) (by decide +kernel)
set_option maxRecDepth 20000 in
theorem gX7_learn_X4_countTrail : GoodIn wsX7_learn (wsV RX7 133 RX4 yX4_countTrail wsX4_countTrail) := goodIn_app (goodIn_of _ (by decide +kernel)) ggX7_learn_X4_countTrail
set_option maxRecDepth 100000 in
theorem ggX7_learn_X7_grant : GoodIn wsX7_learn wsX7_grant := goodIn_r _ [129, 21, 130, 131, 132, 133, 134, 135, 136, 137, 138, 139, 140, 141, 142, 143, 144, 145, 146, 147] (by rfl) (by decide +kernel)
set_option maxRecDepth 20000 in
theorem gX7_learn_X7_grant : GoodIn wsX7_learn (wsV RX7 106 RX7 yX7_grant wsX7_grant) := goodIn_app (goodIn_of _ (by decide +kernel)) ggX7_learn_X7_grant
theorem dX7_learn_0 : decode cX7_learn 0 = .ok (.aload_n 0, 1) := by decide +kernel
theorem dX7_learn_1 : decode cX7_learn 1 = .ok (.getfield 20, 3) := by decide +kernel
theorem dX7_learn_4 : decode cX7_learn 4 = .ok (.iload_n 1, 1) := by decide +kernel
theorem dX7_learn_5 : decode cX7_learn 5 = .ok (.invokevirtual 109, 3) := by decide +kernel
theorem dX7_learn_8 : decode cX7_learn 8 = .ok (.ifCond .ne 9, 3) := by decide +kernel
theorem dX7_learn_11 : decode cX7_learn 11 = .ok (.aload_n 0, 1) := by decide +kernel
theorem dX7_learn_12 : decode cX7_learn 12 = .ok (.iconst 1, 1) := by decide +kernel
theorem dX7_learn_13 : decode cX7_learn 13 = .ok (.invokevirtual 102, 3) := by decide +kernel
theorem dX7_learn_16 : decode cX7_learn 16 = .ok (.ireturn, 1) := by decide +kernel
theorem dX7_learn_17 : decode cX7_learn 17 = .ok (.aload_n 0, 1) := by decide +kernel
theorem dX7_learn_18 : decode cX7_learn 18 = .ok (.iload_n 2, 1) := by decide +kernel
theorem dX7_learn_19 : decode cX7_learn 19 = .ok (.invokevirtual 113, 3) := by decide +kernel
theorem dX7_learn_22 : decode cX7_learn 22 = .ok (.ifCond .ne 9, 3) := by decide +kernel
theorem dX7_learn_25 : decode cX7_learn 25 = .ok (.aload_n 0, 1) := by decide +kernel
theorem dX7_learn_26 : decode cX7_learn 26 = .ok (.iconst 2, 1) := by decide +kernel
theorem dX7_learn_27 : decode cX7_learn 27 = .ok (.invokevirtual 102, 3) := by decide +kernel
theorem dX7_learn_30 : decode cX7_learn 30 = .ok (.ireturn, 1) := by decide +kernel
theorem dX7_learn_31 : decode cX7_learn 31 = .ok (.aload_n 0, 1) := by decide +kernel
theorem dX7_learn_32 : decode cX7_learn 32 = .ok (.iload_n 2, 1) := by decide +kernel
theorem dX7_learn_33 : decode cX7_learn 33 = .ok (.invokevirtual 116, 3) := by decide +kernel
theorem dX7_learn_36 : decode cX7_learn 36 = .ok (.istore_n 3, 1) := by decide +kernel
theorem dX7_learn_37 : decode cX7_learn 37 = .ok (.aload_n 0, 1) := by decide +kernel
theorem dX7_learn_38 : decode cX7_learn 38 = .ok (.invokevirtual 119, 3) := by decide +kernel
theorem dX7_learn_41 : decode cX7_learn 41 = .ok (.istore 4, 2) := by decide +kernel
theorem dX7_learn_43 : decode cX7_learn 43 = .ok (.iload_n 3, 1) := by decide +kernel
theorem dX7_learn_44 : decode cX7_learn 44 = .ok (.ifCond .eq 9, 3) := by decide +kernel
theorem dX7_learn_47 : decode cX7_learn 47 = .ok (.iload 4, 2) := by decide +kernel
theorem dX7_learn_49 : decode cX7_learn 49 = .ok (.iconst (-1), 1) := by decide +kernel
theorem dX7_learn_50 : decode cX7_learn 50 = .ok (.if_icmp .ne 9, 3) := by decide +kernel
theorem dX7_learn_53 : decode cX7_learn 53 = .ok (.aload_n 0, 1) := by decide +kernel
theorem dX7_learn_54 : decode cX7_learn 54 = .ok (.iconst 3, 1) := by decide +kernel
theorem dX7_learn_55 : decode cX7_learn 55 = .ok (.invokevirtual 102, 3) := by decide +kernel
theorem dX7_learn_58 : decode cX7_learn 58 = .ok (.ireturn, 1) := by decide +kernel
theorem dX7_learn_59 : decode cX7_learn 59 = .ok (.new 24, 3) := by decide +kernel
theorem dX7_learn_62 : decode cX7_learn 62 = .ok (.dup, 1) := by decide +kernel
theorem dX7_learn_63 : decode cX7_learn 63 = .ok (.aload_n 0, 1) := by decide +kernel
theorem dX7_learn_64 : decode cX7_learn 64 = .ok (.getfield 33, 3) := by decide +kernel
theorem dX7_learn_67 : decode cX7_learn 67 = .ok (.iload_n 1, 1) := by decide +kernel
theorem dX7_learn_68 : decode cX7_learn 68 = .ok (.aload_n 0, 1) := by decide +kernel
theorem dX7_learn_69 : decode cX7_learn 69 = .ok (.invokevirtual 123, 3) := by decide +kernel
theorem dX7_learn_72 : decode cX7_learn 72 = .ok (.invokespecial 127, 3) := by decide +kernel
theorem dX7_learn_75 : decode cX7_learn 75 = .ok (.astore 5, 2) := by decide +kernel
theorem dX7_learn_77 : decode cX7_learn 77 = .ok (.aload_n 0, 1) := by decide +kernel
theorem dX7_learn_78 : decode cX7_learn 78 = .ok (.getfield 26, 3) := by decide +kernel
theorem dX7_learn_81 : decode cX7_learn 81 = .ok (.iload 4, 2) := by decide +kernel
theorem dX7_learn_83 : decode cX7_learn 83 = .ok (.aload 5, 2) := by decide +kernel
theorem dX7_learn_85 : decode cX7_learn 85 = .ok (.aastore, 1) := by decide +kernel
theorem dX7_learn_86 : decode cX7_learn 86 = .ok (.aload_n 0, 1) := by decide +kernel
theorem dX7_learn_87 : decode cX7_learn 87 = .ok (.getfield 20, 3) := by decide +kernel
theorem dX7_learn_90 : decode cX7_learn 90 = .ok (.iload_n 1, 1) := by decide +kernel
theorem dX7_learn_91 : decode cX7_learn 91 = .ok (.aload 5, 2) := by decide +kernel
theorem dX7_learn_93 : decode cX7_learn 93 = .ok (.getfield 130, 3) := by decide +kernel
theorem dX7_learn_96 : decode cX7_learn 96 = .ok (.iconst 1, 1) := by decide +kernel
theorem dX7_learn_97 : decode cX7_learn 97 = .ok (.invokevirtual 133, 3) := by decide +kernel
theorem dX7_learn_100 : decode cX7_learn 100 = .ok (.aload_n 0, 1) := by decide +kernel
theorem dX7_learn_101 : decode cX7_learn 101 = .ok (.dup, 1) := by decide +kernel
theorem dX7_learn_102 : decode cX7_learn 102 = .ok (.getfield 30, 3) := by decide +kernel
theorem dX7_learn_105 : decode cX7_learn 105 = .ok (.iconst 1, 1) := by decide +kernel
theorem dX7_learn_106 : decode cX7_learn 106 = .ok (.iadd, 1) := by decide +kernel
theorem dX7_learn_107 : decode cX7_learn 107 = .ok (.putfield 30, 3) := by decide +kernel
theorem dX7_learn_110 : decode cX7_learn 110 = .ok (.aload_n 0, 1) := by decide +kernel
theorem dX7_learn_111 : decode cX7_learn 111 = .ok (.dup, 1) := by decide +kernel
theorem dX7_learn_112 : decode cX7_learn 112 = .ok (.getfield 33, 3) := by decide +kernel
theorem dX7_learn_115 : decode cX7_learn 115 = .ok (.iconst 1, 1) := by decide +kernel
theorem dX7_learn_116 : decode cX7_learn 116 = .ok (.iadd, 1) := by decide +kernel
theorem dX7_learn_117 : decode cX7_learn 117 = .ok (.putfield 33, 3) := by decide +kernel
theorem dX7_learn_120 : decode cX7_learn 120 = .ok (.aload_n 0, 1) := by decide +kernel
theorem dX7_learn_121 : decode cX7_learn 121 = .ok (.aload 5, 2) := by decide +kernel
theorem dX7_learn_123 : decode cX7_learn 123 = .ok (.getfield 137, 3) := by decide +kernel
theorem dX7_learn_126 : decode cX7_learn 126 = .ok (.invokevirtual 106, 3) := by decide +kernel
theorem dX7_learn_129 : decode cX7_learn 129 = .ok (.ireturn, 1) := by decide +kernel
set_option maxRecDepth 100000 in
theorem ggX7_forget_X7_placeOf : GoodIn wsX7_forget wsX7_placeOf := goodIn_r _ [10, 1, 11, 27, 28, 29, 30, 31, 32, 33, 34, 35, 36, 37, 38, 39, 40, 41, 42, 43, 44, 45, 46, 47] (by rfl) (by decide +kernel)
set_option maxRecDepth 20000 in
theorem gX7_forget_X7_placeOf : GoodIn wsX7_forget (wsV RX7 140 RX7 yX7_placeOf wsX7_placeOf) := goodIn_app (goodIn_of _ (by decide +kernel)) ggX7_forget_X7_placeOf
set_option maxRecDepth 100000 in
theorem ggX7_forget_X7_refuse : GoodIn wsX7_forget wsX7_refuse := goodIn_r _ [15, 16, 27, 28, 29, 30, 31, 32, 33, 34, 35, 36, 37, 38, 39, 40, 41, 42, 43, 44] (by rfl) (by decide +kernel)
set_option maxRecDepth 20000 in
theorem gX7_forget_X7_refuse : GoodIn wsX7_forget (wsV RX7 102 RX7 yX7_refuse wsX7_refuse) := goodIn_app (goodIn_of _ (by decide +kernel)) ggX7_forget_X7_refuse
set_option maxRecDepth 100000 in
theorem ggX7_forget_X4_countTrail : GoodIn wsX7_forget wsX4_countTrail := goodIn_r _ [21, 22, 48, 49] (by rfl) (by decide +kernel)
set_option maxRecDepth 20000 in
theorem gX7_forget_X4_countTrail : GoodIn wsX7_forget (wsV RX7 133 RX4 yX4_countTrail wsX4_countTrail) := goodIn_app (goodIn_of _ (by decide +kernel)) ggX7_forget_X4_countTrail
set_option maxRecDepth 100000 in
theorem ggX7_forget_X7_grant : GoodIn wsX7_forget wsX7_grant := goodIn_r _ [26, 16, 27, 28, 29, 30, 31, 32, 33, 34, 35, 36, 37, 38, 39, 40, 41, 42, 43, 44] (by rfl) (by decide +kernel)
set_option maxRecDepth 20000 in
theorem gX7_forget_X7_grant : GoodIn wsX7_forget (wsV RX7 106 RX7 yX7_grant wsX7_grant) := goodIn_app (goodIn_of _ (by decide +kernel)) ggX7_forget_X7_grant
theorem dX7_forget_0 : decode cX7_forget 0 = .ok (.aload_n 0, 1) := by decide +kernel
theorem dX7_forget_1 : decode cX7_forget 1 = .ok (.iload_n 1, 1) := by decide +kernel
theorem dX7_forget_2 : decode cX7_forget 2 = .ok (.invokevirtual 140, 3) := by decide +kernel
theorem dX7_forget_5 : decode cX7_forget 5 = .ok (.istore_n 2, 1) := by decide +kernel
theorem dX7_forget_6 : decode cX7_forget 6 = .ok (.iload_n 2, 1) := by decide +kernel
theorem dX7_forget_7 : decode cX7_forget 7 = .ok (.iconst (-1), 1) := by decide +kernel
theorem dX7_forget_8 : decode cX7_forget 8 = .ok (.if_icmp .ne 7, 3) := by decide +kernel
theorem dX7_forget_11 : decode cX7_forget 11 = .ok (.aconst_null, 1) := by decide +kernel
theorem dX7_forget_12 : decode cX7_forget 12 = .ok (.goto 9, 3) := by decide +kernel
theorem dX7_forget_15 : decode cX7_forget 15 = .ok (.aload_n 0, 1) := by decide +kernel
theorem dX7_forget_16 : decode cX7_forget 16 = .ok (.getfield 26, 3) := by decide +kernel
theorem dX7_forget_19 : decode cX7_forget 19 = .ok (.iload_n 2, 1) := by decide +kernel
theorem dX7_forget_20 : decode cX7_forget 20 = .ok (.aaload, 1) := by decide +kernel
theorem dX7_forget_21 : decode cX7_forget 21 = .ok (.astore_n 3, 1) := by decide +kernel
theorem dX7_forget_22 : decode cX7_forget 22 = .ok (.aload_n 3, 1) := by decide +kernel
theorem dX7_forget_23 : decode cX7_forget 23 = .ok (.ifnonnull 11, 3) := by decide +kernel
theorem dX7_forget_26 : decode cX7_forget 26 = .ok (.aload_n 0, 1) := by decide +kernel
theorem dX7_forget_27 : decode cX7_forget 27 = .ok (.iconst 1, 1) := by decide +kernel
theorem dX7_forget_28 : decode cX7_forget 28 = .ok (.invokevirtual 102, 3) := by decide +kernel
theorem dX7_forget_31 : decode cX7_forget 31 = .ok (.pop, 1) := by decide +kernel
theorem dX7_forget_32 : decode cX7_forget 32 = .ok (.iconst 0, 1) := by decide +kernel
theorem dX7_forget_33 : decode cX7_forget 33 = .ok (.ireturn, 1) := by decide +kernel
theorem dX7_forget_34 : decode cX7_forget 34 = .ok (.aload_n 0, 1) := by decide +kernel
theorem dX7_forget_35 : decode cX7_forget 35 = .ok (.getfield 20, 3) := by decide +kernel
theorem dX7_forget_38 : decode cX7_forget 38 = .ok (.aload_n 3, 1) := by decide +kernel
theorem dX7_forget_39 : decode cX7_forget 39 = .ok (.getfield 143, 3) := by decide +kernel
theorem dX7_forget_42 : decode cX7_forget 42 = .ok (.aload_n 3, 1) := by decide +kernel
theorem dX7_forget_43 : decode cX7_forget 43 = .ok (.getfield 130, 3) := by decide +kernel
theorem dX7_forget_46 : decode cX7_forget 46 = .ok (.iconst (-1), 1) := by decide +kernel
theorem dX7_forget_47 : decode cX7_forget 47 = .ok (.invokevirtual 133, 3) := by decide +kernel
theorem dX7_forget_50 : decode cX7_forget 50 = .ok (.aload_n 0, 1) := by decide +kernel
theorem dX7_forget_51 : decode cX7_forget 51 = .ok (.getfield 26, 3) := by decide +kernel
theorem dX7_forget_54 : decode cX7_forget 54 = .ok (.iload_n 2, 1) := by decide +kernel
theorem dX7_forget_55 : decode cX7_forget 55 = .ok (.aconst_null, 1) := by decide +kernel
theorem dX7_forget_56 : decode cX7_forget 56 = .ok (.aastore, 1) := by decide +kernel
theorem dX7_forget_57 : decode cX7_forget 57 = .ok (.aload_n 0, 1) := by decide +kernel
theorem dX7_forget_58 : decode cX7_forget 58 = .ok (.dup, 1) := by decide +kernel
theorem dX7_forget_59 : decode cX7_forget 59 = .ok (.getfield 30, 3) := by decide +kernel
theorem dX7_forget_62 : decode cX7_forget 62 = .ok (.iconst 1, 1) := by decide +kernel
theorem dX7_forget_63 : decode cX7_forget 63 = .ok (.isub, 1) := by decide +kernel
theorem dX7_forget_64 : decode cX7_forget 64 = .ok (.putfield 30, 3) := by decide +kernel
theorem dX7_forget_67 : decode cX7_forget 67 = .ok (.aload_n 0, 1) := by decide +kernel
theorem dX7_forget_68 : decode cX7_forget 68 = .ok (.iconst 0, 1) := by decide +kernel
theorem dX7_forget_69 : decode cX7_forget 69 = .ok (.invokevirtual 106, 3) := by decide +kernel
theorem dX7_forget_72 : decode cX7_forget 72 = .ok (.pop, 1) := by decide +kernel
theorem dX7_forget_73 : decode cX7_forget 73 = .ok (.iconst 1, 1) := by decide +kernel
theorem dX7_forget_74 : decode cX7_forget 74 = .ok (.ireturn, 1) := by decide +kernel
set_option maxRecDepth 100000 in
theorem ggX7_keyword_X4_has : GoodIn wsX7_keyword wsX4_has := goodIn_r _ [9, 10, 126, 127] (by rfl) (by decide +kernel)
set_option maxRecDepth 20000 in
theorem gX7_keyword_X4_has : GoodIn wsX7_keyword (wsV RX7 109 RX4 yX4_has wsX4_has) := goodIn_app (goodIn_of _ (by decide +kernel)) ggX7_keyword_X4_has
set_option maxRecDepth 100000 in
theorem ggX7_keyword_X7_refuse : GoodIn wsX7_keyword wsX7_refuse := goodIn_r _ [15, 16, 108, 109, 110, 111, 112, 113, 114, 115, 116, 117, 118, 119, 120, 121, 122, 123, 124, 125] (by rfl) (by decide +kernel)
set_option maxRecDepth 20000 in
theorem gX7_keyword_X7_refuse : GoodIn wsX7_keyword (wsV RX7 102 RX7 yX7_refuse wsX7_refuse) := goodIn_app (goodIn_of _ (by decide +kernel)) ggX7_keyword_X7_refuse
set_option maxRecDepth 100000 in
theorem ggX7_keyword_X7_isOnTape : GoodIn wsX7_keyword wsX7_isOnTape := goodIn_r _ [20, 21, 108, 109, 110, 111, 112, 113, 114, 115, 116, 117, 118, 119, 120, 121, 122, 123, 124, 125] (by rfl) (by decide +kernel)
set_option maxRecDepth 20000 in
theorem gX7_keyword_X7_isOnTape : GoodIn wsX7_keyword (wsV RX7 113 RX7 yX7_isOnTape wsX7_isOnTape) := goodIn_app (goodIn_of _ (by decide +kernel)) ggX7_keyword_X7_isOnTape
set_option maxRecDepth 100000 in
theorem ggX7_keyword_X7_draftIsOneWord : GoodIn wsX7_keyword wsX7_draftIsOneWord := goodIn_r _ [25, 3, 26, 27, 28, 29, 14, 30, 31, 32, 33, 34, 35, 36, 37, 38, 39, 40, 41, 21, 42, 43, 44, 45, 46, 47, 48, 49, 50, 51, 52, 53, 54, 55, 56, 57, 58, 59, 60, 61, 62, 63, 64, 65, 66, 67, 68, 69, 70, 71, 72, 73, 74, 75, 76, 108, 109, 110, 111, 112, 113, 114, 115, 116, 117, 118, 119, 120, 121, 122, 123, 124, 125, 128, 129, 130, 131, 132] (by rfl) (by decide +kernel)
set_option maxRecDepth 20000 in
theorem gX7_keyword_X7_draftIsOneWord : GoodIn wsX7_keyword (wsV RX7 146 RX7 yX7_draftIsOneWord wsX7_draftIsOneWord) := goodIn_app (goodIn_of _ (by decide +kernel)) ggX7_keyword_X7_draftIsOneWord
set_option maxRecDepth 100000 in
theorem ggX7_keyword_X6_placeOf : GoodIn wsX7_keyword wsX6_placeOf := goodIn_r _ [81, 82, 83, 84, 85, 80, 86, 87, 88, 89, 90, 91, 133, 134, 135, 128, 129, 130, 131, 132] (by rfl) (by decide +kernel)
set_option maxRecDepth 20000 in
theorem gX7_keyword_X6_placeOf : GoodIn wsX7_keyword (wsV RX7 149 RX6 yX6_placeOf wsX6_placeOf) := goodIn_app (goodIn_of _ (by decide +kernel)) ggX7_keyword_X6_placeOf
set_option maxRecDepth 100000 in
theorem ggX7_keyword_X6_take : GoodIn wsX7_keyword wsX6_take := goodIn_r _ [95, 88, 82, 87, 91, 89, 90, 96, 49, 50, 51, 128, 129, 130, 131, 132, 133, 134, 135] (by rfl) (by decide +kernel)
set_option maxRecDepth 20000 in
theorem gX7_keyword_X6_take : GoodIn wsX7_keyword (wsV RX7 152 RX6 yX6_take wsX6_take) := goodIn_app (goodIn_of _ (by decide +kernel)) ggX7_keyword_X6_take
set_option maxRecDepth 100000 in
theorem ggX7_keyword_J6_bitCount_0f7a4 : GoodIn wsX7_keyword wsJ6_bitCount_0f7a4 := goodIn_r _ [100, 101, 102, 103] (by rfl) (by decide +kernel)
set_option maxRecDepth 20000 in
theorem gX7_keyword_J6_bitCount_0f7a4 : GoodIn wsX7_keyword (va_wsS RX7 155 yJ6_bitCount_0f7a4 wsJ6_bitCount_0f7a4) := goodIn_app (goodIn_of _ (by decide +kernel)) ggX7_keyword_J6_bitCount_0f7a4
set_option maxRecDepth 100000 in
theorem ggX7_keyword_X7_grant : GoodIn wsX7_keyword wsX7_grant := goodIn_r _ [107, 16, 108, 109, 110, 111, 112, 113, 114, 115, 116, 117, 118, 119, 120, 121, 122, 123, 124, 125] (by rfl) (by decide +kernel)
set_option maxRecDepth 20000 in
theorem gX7_keyword_X7_grant : GoodIn wsX7_keyword (wsV RX7 106 RX7 yX7_grant wsX7_grant) := goodIn_app (goodIn_of _ (by decide +kernel)) ggX7_keyword_X7_grant
theorem dX7_keyword_0 : decode cX7_keyword 0 = .ok (.aload_n 0, 1) := by decide +kernel
theorem dX7_keyword_1 : decode cX7_keyword 1 = .ok (.getfield 20, 3) := by decide +kernel
theorem dX7_keyword_4 : decode cX7_keyword 4 = .ok (.iload_n 1, 1) := by decide +kernel
theorem dX7_keyword_5 : decode cX7_keyword 5 = .ok (.invokevirtual 109, 3) := by decide +kernel
theorem dX7_keyword_8 : decode cX7_keyword 8 = .ok (.ifCond .ne 9, 3) := by decide +kernel
theorem dX7_keyword_11 : decode cX7_keyword 11 = .ok (.aload_n 0, 1) := by decide +kernel
theorem dX7_keyword_12 : decode cX7_keyword 12 = .ok (.iconst 1, 1) := by decide +kernel
theorem dX7_keyword_13 : decode cX7_keyword 13 = .ok (.invokevirtual 102, 3) := by decide +kernel
theorem dX7_keyword_16 : decode cX7_keyword 16 = .ok (.ireturn, 1) := by decide +kernel
theorem dX7_keyword_17 : decode cX7_keyword 17 = .ok (.aload_n 0, 1) := by decide +kernel
theorem dX7_keyword_18 : decode cX7_keyword 18 = .ok (.iload_n 2, 1) := by decide +kernel
theorem dX7_keyword_19 : decode cX7_keyword 19 = .ok (.invokevirtual 113, 3) := by decide +kernel
theorem dX7_keyword_22 : decode cX7_keyword 22 = .ok (.ifCond .eq 11, 3) := by decide +kernel
theorem dX7_keyword_25 : decode cX7_keyword 25 = .ok (.aload_n 0, 1) := by decide +kernel
theorem dX7_keyword_26 : decode cX7_keyword 26 = .ok (.iload_n 2, 1) := by decide +kernel
theorem dX7_keyword_27 : decode cX7_keyword 27 = .ok (.invokevirtual 146, 3) := by decide +kernel
theorem dX7_keyword_30 : decode cX7_keyword 30 = .ok (.ifCond .ne 9, 3) := by decide +kernel
theorem dX7_keyword_33 : decode cX7_keyword 33 = .ok (.aload_n 0, 1) := by decide +kernel
theorem dX7_keyword_34 : decode cX7_keyword 34 = .ok (.iconst 2, 1) := by decide +kernel
theorem dX7_keyword_35 : decode cX7_keyword 35 = .ok (.invokevirtual 102, 3) := by decide +kernel
theorem dX7_keyword_38 : decode cX7_keyword 38 = .ok (.ireturn, 1) := by decide +kernel
theorem dX7_keyword_39 : decode cX7_keyword 39 = .ok (.aload_n 0, 1) := by decide +kernel
theorem dX7_keyword_40 : decode cX7_keyword 40 = .ok (.getfield 41, 3) := by decide +kernel
theorem dX7_keyword_43 : decode cX7_keyword 43 = .ok (.aload_n 0, 1) := by decide +kernel
theorem dX7_keyword_44 : decode cX7_keyword 44 = .ok (.getfield 65, 3) := by decide +kernel
theorem dX7_keyword_47 : decode cX7_keyword 47 = .ok (.iconst 0, 1) := by decide +kernel
theorem dX7_keyword_48 : decode cX7_keyword 48 = .ok (.invokevirtual 149, 3) := by decide +kernel
theorem dX7_keyword_51 : decode cX7_keyword 51 = .ok (.istore_n 3, 1) := by decide +kernel
theorem dX7_keyword_52 : decode cX7_keyword 52 = .ok (.iload_n 3, 1) := by decide +kernel
theorem dX7_keyword_53 : decode cX7_keyword 53 = .ok (.iconst (-1), 1) := by decide +kernel
theorem dX7_keyword_54 : decode cX7_keyword 54 = .ok (.if_icmp .eq 22, 3) := by decide +kernel
theorem dX7_keyword_57 : decode cX7_keyword 57 = .ok (.aload_n 0, 1) := by decide +kernel
theorem dX7_keyword_58 : decode cX7_keyword 58 = .ok (.getfield 45, 3) := by decide +kernel
theorem dX7_keyword_61 : decode cX7_keyword 61 = .ok (.iload_n 3, 1) := by decide +kernel
theorem dX7_keyword_62 : decode cX7_keyword 62 = .ok (.iaload, 1) := by decide +kernel
theorem dX7_keyword_63 : decode cX7_keyword 63 = .ok (.iload_n 1, 1) := by decide +kernel
theorem dX7_keyword_64 : decode cX7_keyword 64 = .ok (.ishr, 1) := by decide +kernel
theorem dX7_keyword_65 : decode cX7_keyword 65 = .ok (.iconst 1, 1) := by decide +kernel
theorem dX7_keyword_66 : decode cX7_keyword 66 = .ok (.iand, 1) := by decide +kernel
theorem dX7_keyword_67 : decode cX7_keyword 67 = .ok (.ifCond .eq 9, 3) := by decide +kernel
theorem dX7_keyword_70 : decode cX7_keyword 70 = .ok (.aload_n 0, 1) := by decide +kernel
theorem dX7_keyword_71 : decode cX7_keyword 71 = .ok (.iconst 4, 1) := by decide +kernel
theorem dX7_keyword_72 : decode cX7_keyword 72 = .ok (.invokevirtual 102, 3) := by decide +kernel
theorem dX7_keyword_75 : decode cX7_keyword 75 = .ok (.ireturn, 1) := by decide +kernel
theorem dX7_keyword_76 : decode cX7_keyword 76 = .ok (.iload_n 3, 1) := by decide +kernel
theorem dX7_keyword_77 : decode cX7_keyword 77 = .ok (.iconst (-1), 1) := by decide +kernel
theorem dX7_keyword_78 : decode cX7_keyword 78 = .ok (.if_icmp .ne 16, 3) := by decide +kernel
theorem dX7_keyword_81 : decode cX7_keyword 81 = .ok (.aload_n 0, 1) := by decide +kernel
theorem dX7_keyword_82 : decode cX7_keyword 82 = .ok (.getfield 41, 3) := by decide +kernel
theorem dX7_keyword_85 : decode cX7_keyword 85 = .ok (.aload_n 0, 1) := by decide +kernel
theorem dX7_keyword_86 : decode cX7_keyword 86 = .ok (.getfield 65, 3) := by decide +kernel
theorem dX7_keyword_89 : decode cX7_keyword 89 = .ok (.iconst 0, 1) := by decide +kernel
theorem dX7_keyword_90 : decode cX7_keyword 90 = .ok (.invokevirtual 152, 3) := by decide +kernel
theorem dX7_keyword_93 : decode cX7_keyword 93 = .ok (.istore_n 3, 1) := by decide +kernel
theorem dX7_keyword_94 : decode cX7_keyword 94 = .ok (.iload_n 3, 1) := by decide +kernel
theorem dX7_keyword_95 : decode cX7_keyword 95 = .ok (.iconst (-1), 1) := by decide +kernel
theorem dX7_keyword_96 : decode cX7_keyword 96 = .ok (.if_icmp .ne 9, 3) := by decide +kernel
theorem dX7_keyword_99 : decode cX7_keyword 99 = .ok (.aload_n 0, 1) := by decide +kernel
theorem dX7_keyword_100 : decode cX7_keyword 100 = .ok (.iconst 3, 1) := by decide +kernel
theorem dX7_keyword_101 : decode cX7_keyword 101 = .ok (.invokevirtual 102, 3) := by decide +kernel
theorem dX7_keyword_104 : decode cX7_keyword 104 = .ok (.ireturn, 1) := by decide +kernel
theorem dX7_keyword_105 : decode cX7_keyword 105 = .ok (.aload_n 0, 1) := by decide +kernel
theorem dX7_keyword_106 : decode cX7_keyword 106 = .ok (.getfield 45, 3) := by decide +kernel
theorem dX7_keyword_109 : decode cX7_keyword 109 = .ok (.iload_n 3, 1) := by decide +kernel
theorem dX7_keyword_110 : decode cX7_keyword 110 = .ok (.dup2, 1) := by decide +kernel
theorem dX7_keyword_111 : decode cX7_keyword 111 = .ok (.iaload, 1) := by decide +kernel
theorem dX7_keyword_112 : decode cX7_keyword 112 = .ok (.iconst 1, 1) := by decide +kernel
theorem dX7_keyword_113 : decode cX7_keyword 113 = .ok (.iload_n 1, 1) := by decide +kernel
theorem dX7_keyword_114 : decode cX7_keyword 114 = .ok (.ishl, 1) := by decide +kernel
theorem dX7_keyword_115 : decode cX7_keyword 115 = .ok (.ior, 1) := by decide +kernel
theorem dX7_keyword_116 : decode cX7_keyword 116 = .ok (.iastore, 1) := by decide +kernel
theorem dX7_keyword_117 : decode cX7_keyword 117 = .ok (.aload_n 0, 1) := by decide +kernel
theorem dX7_keyword_118 : decode cX7_keyword 118 = .ok (.aload_n 0, 1) := by decide +kernel
theorem dX7_keyword_119 : decode cX7_keyword 119 = .ok (.getfield 45, 3) := by decide +kernel
theorem dX7_keyword_122 : decode cX7_keyword 122 = .ok (.iload_n 3, 1) := by decide +kernel
theorem dX7_keyword_123 : decode cX7_keyword 123 = .ok (.iaload, 1) := by decide +kernel
theorem dX7_keyword_124 : decode cX7_keyword 124 = .ok (.invokestatic 155, 3) := by decide +kernel
theorem dX7_keyword_127 : decode cX7_keyword 127 = .ok (.invokevirtual 106, 3) := by decide +kernel
theorem dX7_keyword_130 : decode cX7_keyword 130 = .ok (.ireturn, 1) := by decide +kernel
set_option maxRecDepth 100000 in
theorem ggX7_name_X7_isOnTape : GoodIn wsX7_name wsX7_isOnTape := goodIn_r _ [8, 9, 94, 95, 96, 97, 98, 99, 100, 101, 102, 103, 104, 105, 106, 107, 108, 109, 110, 111] (by rfl) (by decide +kernel)
set_option maxRecDepth 20000 in
theorem gX7_name_X7_isOnTape : GoodIn wsX7_name (wsV RX7 113 RX7 yX7_isOnTape wsX7_isOnTape) := goodIn_app (goodIn_of _ (by decide +kernel)) ggX7_name_X7_isOnTape
set_option maxRecDepth 100000 in
theorem ggX7_name_X7_draftIsOneWord : GoodIn wsX7_name wsX7_draftIsOneWord := goodIn_r _ [13, 2, 14, 15, 16, 17, 7, 18, 19, 20, 21, 22, 23, 24, 25, 26, 27, 28, 29, 9, 30, 31, 32, 33, 34, 35, 36, 37, 38, 39, 40, 41, 42, 43, 44, 45, 46, 47, 48, 49, 50, 51, 52, 53, 54, 55, 56, 57, 58, 59, 60, 61, 62, 63, 64, 94, 95, 96, 97, 98, 99, 100, 101, 102, 103, 104, 105, 106, 107, 108, 109, 110, 111, 115, 116, 117, 118, 119] (by rfl) (by decide +kernel)
set_option maxRecDepth 20000 in
theorem gX7_name_X7_draftIsOneWord : GoodIn wsX7_name (wsV RX7 146 RX7 yX7_draftIsOneWord wsX7_draftIsOneWord) := goodIn_app (goodIn_of _ (by decide +kernel)) ggX7_name_X7_draftIsOneWord
set_option maxRecDepth 100000 in
theorem ggX7_name_X7_refuse : GoodIn wsX7_name wsX7_refuse := goodIn_r _ [68, 69, 94, 95, 96, 97, 98, 99, 100, 101, 102, 103, 104, 105, 106, 107, 108, 109, 110, 111] (by rfl) (by decide +kernel)
set_option maxRecDepth 20000 in
theorem gX7_name_X7_refuse : GoodIn wsX7_name (wsV RX7 102 RX7 yX7_refuse wsX7_refuse) := goodIn_app (goodIn_of _ (by decide +kernel)) ggX7_name_X7_refuse
set_option maxRecDepth 100000 in
theorem ggX7_name_X6_placeOf : GoodIn wsX7_name wsX6_placeOf := goodIn_r _ [74, 75, 76, 77, 78, 73, 79, 80, 81, 82, 83, 84, 112, 113, 114, 115, 116, 117, 118, 119] (by rfl) (by decide +kernel)
set_option maxRecDepth 20000 in
theorem gX7_name_X6_placeOf : GoodIn wsX7_name (wsV RX7 149 RX6 yX6_placeOf wsX6_placeOf) := goodIn_app (goodIn_of _ (by decide +kernel)) ggX7_name_X6_placeOf
set_option maxRecDepth 100000 in
theorem ggX7_name_X6_take : GoodIn wsX7_name wsX6_take := goodIn_r _ [88, 81, 75, 80, 84, 82, 83, 89, 37, 38, 39, 115, 116, 117, 118, 119, 112, 113, 114] (by rfl) (by decide +kernel)
set_option maxRecDepth 20000 in
theorem gX7_name_X6_take : GoodIn wsX7_name (wsV RX7 152 RX6 yX6_take wsX6_take) := goodIn_app (goodIn_of _ (by decide +kernel)) ggX7_name_X6_take
set_option maxRecDepth 100000 in
theorem ggX7_name_X7_grant : GoodIn wsX7_name wsX7_grant := goodIn_r _ [93, 69, 94, 95, 96, 97, 98, 99, 100, 101, 102, 103, 104, 105, 106, 107, 108, 109, 110, 111] (by rfl) (by decide +kernel)
set_option maxRecDepth 20000 in
theorem gX7_name_X7_grant : GoodIn wsX7_name (wsV RX7 106 RX7 yX7_grant wsX7_grant) := goodIn_app (goodIn_of _ (by decide +kernel)) ggX7_name_X7_grant
theorem dX7_name_0 : decode cX7_name 0 = .ok (.aload_n 0, 1) := by decide +kernel
theorem dX7_name_1 : decode cX7_name 1 = .ok (.iload_n 1, 1) := by decide +kernel
theorem dX7_name_2 : decode cX7_name 2 = .ok (.invokevirtual 113, 3) := by decide +kernel
theorem dX7_name_5 : decode cX7_name 5 = .ok (.ifCond .eq 11, 3) := by decide +kernel
theorem dX7_name_8 : decode cX7_name 8 = .ok (.aload_n 0, 1) := by decide +kernel
theorem dX7_name_9 : decode cX7_name 9 = .ok (.iload_n 1, 1) := by decide +kernel
theorem dX7_name_10 : decode cX7_name 10 = .ok (.invokevirtual 146, 3) := by decide +kernel
theorem dX7_name_13 : decode cX7_name 13 = .ok (.ifCond .ne 9, 3) := by decide +kernel
theorem dX7_name_16 : decode cX7_name 16 = .ok (.aload_n 0, 1) := by decide +kernel
theorem dX7_name_17 : decode cX7_name 17 = .ok (.iconst 2, 1) := by decide +kernel
theorem dX7_name_18 : decode cX7_name 18 = .ok (.invokevirtual 102, 3) := by decide +kernel
theorem dX7_name_21 : decode cX7_name 21 = .ok (.ireturn, 1) := by decide +kernel
theorem dX7_name_22 : decode cX7_name 22 = .ok (.aload_n 0, 1) := by decide +kernel
theorem dX7_name_23 : decode cX7_name 23 = .ok (.getfield 49, 3) := by decide +kernel
theorem dX7_name_26 : decode cX7_name 26 = .ok (.aload_n 0, 1) := by decide +kernel
theorem dX7_name_27 : decode cX7_name 27 = .ok (.getfield 65, 3) := by decide +kernel
theorem dX7_name_30 : decode cX7_name 30 = .ok (.iconst 0, 1) := by decide +kernel
theorem dX7_name_31 : decode cX7_name 31 = .ok (.invokevirtual 149, 3) := by decide +kernel
theorem dX7_name_34 : decode cX7_name 34 = .ok (.iconst (-1), 1) := by decide +kernel
theorem dX7_name_35 : decode cX7_name 35 = .ok (.if_icmp .eq 9, 3) := by decide +kernel
theorem dX7_name_38 : decode cX7_name 38 = .ok (.aload_n 0, 1) := by decide +kernel
theorem dX7_name_39 : decode cX7_name 39 = .ok (.iconst 4, 1) := by decide +kernel
theorem dX7_name_40 : decode cX7_name 40 = .ok (.invokevirtual 102, 3) := by decide +kernel
theorem dX7_name_43 : decode cX7_name 43 = .ok (.ireturn, 1) := by decide +kernel
theorem dX7_name_44 : decode cX7_name 44 = .ok (.aload_n 0, 1) := by decide +kernel
theorem dX7_name_45 : decode cX7_name 45 = .ok (.getfield 49, 3) := by decide +kernel
theorem dX7_name_48 : decode cX7_name 48 = .ok (.aload_n 0, 1) := by decide +kernel
theorem dX7_name_49 : decode cX7_name 49 = .ok (.getfield 65, 3) := by decide +kernel
theorem dX7_name_52 : decode cX7_name 52 = .ok (.iconst 0, 1) := by decide +kernel
theorem dX7_name_53 : decode cX7_name 53 = .ok (.invokevirtual 152, 3) := by decide +kernel
theorem dX7_name_56 : decode cX7_name 56 = .ok (.iconst (-1), 1) := by decide +kernel
theorem dX7_name_57 : decode cX7_name 57 = .ok (.if_icmp .ne 9, 3) := by decide +kernel
theorem dX7_name_60 : decode cX7_name 60 = .ok (.aload_n 0, 1) := by decide +kernel
theorem dX7_name_61 : decode cX7_name 61 = .ok (.iconst 3, 1) := by decide +kernel
theorem dX7_name_62 : decode cX7_name 62 = .ok (.invokevirtual 102, 3) := by decide +kernel
theorem dX7_name_65 : decode cX7_name 65 = .ok (.ireturn, 1) := by decide +kernel
theorem dX7_name_66 : decode cX7_name 66 = .ok (.aload_n 0, 1) := by decide +kernel
theorem dX7_name_67 : decode cX7_name 67 = .ok (.aload_n 0, 1) := by decide +kernel
theorem dX7_name_68 : decode cX7_name 68 = .ok (.getfield 49, 3) := by decide +kernel
theorem dX7_name_71 : decode cX7_name 71 = .ok (.getfield 160, 3) := by decide +kernel
theorem dX7_name_74 : decode cX7_name 74 = .ok (.invokevirtual 106, 3) := by decide +kernel
theorem dX7_name_77 : decode cX7_name 77 = .ok (.ireturn, 1) := by decide +kernel
set_option maxRecDepth 100000 in
theorem ggX7_set_X7_refuse : GoodIn wsX7_set wsX7_refuse := goodIn_r _ [7, 8, 13, 14, 15, 16, 17, 18, 19, 20, 21, 22, 23, 24, 25, 26, 27, 28, 29, 30] (by rfl) (by decide +kernel)
set_option maxRecDepth 20000 in
theorem gX7_set_X7_refuse : GoodIn wsX7_set (wsV RX7 102 RX7 yX7_refuse wsX7_refuse) := goodIn_app (goodIn_of _ (by decide +kernel)) ggX7_set_X7_refuse
set_option maxRecDepth 100000 in
theorem ggX7_set_X7_grant : GoodIn wsX7_set wsX7_grant := goodIn_r _ [12, 8, 13, 14, 15, 16, 17, 18, 19, 20, 21, 22, 23, 24, 25, 26, 27, 28, 29, 30] (by rfl) (by decide +kernel)
set_option maxRecDepth 20000 in
theorem gX7_set_X7_grant : GoodIn wsX7_set (wsV RX7 106 RX7 yX7_grant wsX7_grant) := goodIn_app (goodIn_of _ (by decide +kernel)) ggX7_set_X7_grant
theorem dX7_set_0 : decode cX7_set 0 = .ok (.iload_n 1, 1) := by decide +kernel
theorem dX7_set_1 : decode cX7_set 1 = .ok (.ifCond .lt 22, 3) := by decide +kernel
theorem dX7_set_4 : decode cX7_set 4 = .ok (.iload_n 1, 1) := by decide +kernel
theorem dX7_set_5 : decode cX7_set 5 = .ok (.sipush 2000, 3) := by decide +kernel
theorem dX7_set_8 : decode cX7_set 8 = .ok (.if_icmp .gt 15, 3) := by decide +kernel
theorem dX7_set_11 : decode cX7_set 11 = .ok (.iload_n 2, 1) := by decide +kernel
theorem dX7_set_12 : decode cX7_set 12 = .ok (.iconst 1, 1) := by decide +kernel
theorem dX7_set_13 : decode cX7_set 13 = .ok (.if_icmp .lt 10, 3) := by decide +kernel
theorem dX7_set_16 : decode cX7_set 16 = .ok (.iload_n 2, 1) := by decide +kernel
