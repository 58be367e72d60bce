theorem mem_pl {big ws : List Cond} (ps : List Nat) (hp : ws = ps.filterMap (fun i => big[i]?)) : ∀ w ∈ ws, w ∈ big := by
  intro w hw
  rw [hp] at hw
  obtain ⟨i, -, hi⟩ := List.mem_filterMap.mp hw
  exact List.mem_of_getElem? hi
set_option maxRecDepth 20000 in
theorem in_wsL_law0_r1 : ∀ w ∈ wsL_law0_r1, w ∈ lw_tbl := mem_pl [63, 64, 47, 677, 678, 55, 978, 65, 66, 67, 68, 69, 70, 85, 222, 223, 71, 72, 48, 224, 87, 225, 226, 227] (by decide +kernel)
set_option maxRecDepth 20000 in
theorem in_wsL_law0_r2 : ∀ w ∈ wsL_law0_r2, w ∈ lw_tbl := mem_pl [89, 90, 49, 228, 86, 229, 230, 231, 232, 112, 113, 51, 233, 234, 235, 145, 146, 52, 236, 184, 185, 53, 237, 203] (by decide +kernel)
set_option maxRecDepth 20000 in
theorem in_wsL_law0_r3 : ∀ w ∈ wsL_law0_r3, w ∈ lw_tbl := mem_pl [204, 54, 238, 239, 74, 75, 76, 77, 78, 91, 92, 93, 94, 103, 95, 96, 50, 97, 98, 99, 100, 101, 102, 115] (by decide +kernel)
set_option maxRecDepth 20000 in
theorem in_wsL_law0_r4 : ∀ w ∈ wsL_law0_r4, w ∈ lw_tbl := mem_pl [116, 117, 118, 122, 126, 130, 132, 148, 149, 150, 151, 154, 155, 157, 158, 161, 162, 163, 164, 187, 188, 189, 190, 192] (by decide +kernel)
set_option maxRecDepth 20000 in
theorem in_wsL_law0_r5 : ∀ w ∈ wsL_law0_r5, w ∈ lw_tbl := mem_pl [194, 206, 207, 208, 209, 211, 221, 213, 679, 680, 681, 682, 688, 690, 691, 692, 693, 694, 695, 696, 697, 701, 702, 703] (by decide +kernel)
set_option maxRecDepth 20000 in
theorem in_wsL_law0_r6 : ∀ w ∈ wsL_law0_r6, w ∈ lw_tbl := mem_pl [704, 683, 801, 705, 708, 709, 710, 711, 715, 716, 717, 684, 718, 719, 720, 721, 722, 277, 278, 279, 280, 281, 283, 0] (by decide +kernel)
set_option maxRecDepth 20000 in
theorem in_wsL_law0_r7 : ∀ w ∈ wsL_law0_r7, w ∈ lw_tbl := mem_pl [284, 285, 286, 287, 802, 803, 804, 805, 686, 689, 288, 289, 290, 291, 79, 292, 294, 1, 295, 296, 298, 2, 299, 806] (by decide +kernel)
set_option maxRecDepth 20000 in
theorem in_wsL_law0_r8 : ∀ w ∈ wsL_law0_r8, w ∈ lw_tbl := mem_pl [807, 808, 809, 700, 810, 812, 30, 813, 687, 814, 816, 31, 817, 300, 301, 302, 303, 351, 57, 382, 378, 304, 305, 306] (by decide +kernel)
set_option maxRecDepth 20000 in
theorem in_wsL_law0_r9 : ∀ w ∈ wsL_law0_r9, w ∈ lw_tbl := mem_pl [307, 308, 310, 3, 311, 312, 314, 4, 315, 316, 317, 318, 319, 320, 322, 5, 323, 324, 325, 326, 327, 328, 330, 329] (by decide +kernel)
set_option maxRecDepth 20000 in
theorem in_wsL_law0_r10 : ∀ w ∈ wsL_law0_r10, w ∈ lw_tbl := mem_pl [56, 331, 332, 333, 334, 335, 337, 6, 338, 339, 340, 341, 342, 344, 7, 345, 346, 347, 349, 8, 350, 352, 354, 9] (by decide +kernel)
set_option maxRecDepth 20000 in
theorem in_wsL_law0_r11 : ∀ w ∈ wsL_law0_r11, w ∈ lw_tbl := mem_pl [355, 133, 129, 121, 125, 372, 356, 358, 10, 359, 360, 361, 362, 363, 364, 365, 366, 367, 368, 370, 11, 371, 127, 123] (by decide +kernel)
set_option maxRecDepth 20000 in
theorem in_wsL_law0_r12 : ∀ w ∈ wsL_law0_r12, w ∈ lw_tbl := mem_pl [119, 373, 374, 375, 376, 377, 379, 381, 390, 391, 392, 393, 818, 819, 820, 821, 706, 707, 822, 824, 32, 825, 826, 828] (by decide +kernel)
set_option maxRecDepth 20000 in
theorem in_wsL_law0_r13 : ∀ w ∈ wsL_law0_r13, w ∈ lw_tbl := mem_pl [33, 829, 830, 832, 34, 833, 834, 835, 836, 837, 838, 839, 840, 842, 35, 843, 699, 844, 845, 846, 847, 848, 849, 850] (by decide +kernel)
set_option maxRecDepth 20000 in
theorem in_wsL_law0_r14 : ∀ w ∈ wsL_law0_r14, w ∈ lw_tbl := mem_pl [851, 853, 36, 854, 394, 395, 396, 397, 380, 398, 400, 12, 401, 855, 856, 857, 858, 402, 403, 404, 405, 406, 408, 13] (by decide +kernel)
set_option maxRecDepth 20000 in
theorem in_wsL_law0_r15 : ∀ w ∈ wsL_law0_r15, w ∈ lw_tbl := mem_pl [409, 410, 411, 412, 413, 414, 415, 416, 58, 417, 418, 419, 420, 859, 860, 861, 862, 698, 863, 865, 37, 866, 867, 869] (by decide +kernel)
set_option maxRecDepth 20000 in
theorem in_wsL_law0_r16 : ∀ w ∈ wsL_law0_r16, w ∈ lw_tbl := mem_pl [38, 870, 421, 422, 423, 424, 104, 871, 872, 873, 874, 425, 426, 427, 428, 875, 876, 877, 878, 429, 430, 431, 432, 433] (by decide +kernel)
set_option maxRecDepth 20000 in
theorem in_wsL_law0_r17 : ∀ w ∈ wsL_law0_r17, w ∈ lw_tbl := mem_pl [434, 435, 436, 437, 438, 439, 879, 880, 881, 882, 440, 441, 442, 443, 444, 446, 14, 447, 883, 884, 885, 886, 712, 713] (by decide +kernel)
set_option maxRecDepth 20000 in
theorem in_wsL_law0_r18 : ∀ w ∈ wsL_law0_r18, w ∈ lw_tbl := mem_pl [714, 448, 449, 450, 451, 131, 887, 888, 889, 890, 452, 453, 454, 455, 456, 458, 15, 459, 460, 462, 16, 463, 891, 892] (by decide +kernel)
set_option maxRecDepth 20000 in
theorem in_wsL_law0_r19 : ∀ w ∈ wsL_law0_r19, w ∈ lw_tbl := mem_pl [893, 894, 895, 897, 39, 898, 464, 465, 466, 467, 468, 470, 17, 471, 472, 474, 18, 475, 476, 477, 478, 479, 124, 128] (by decide +kernel)
set_option maxRecDepth 20000 in
theorem in_wsL_law0_r20 : ∀ w ∈ wsL_law0_r20, w ∈ lw_tbl := mem_pl [120, 480, 482, 19, 483, 484, 899, 900, 901, 902, 903, 905, 40, 906, 907, 908, 909, 485, 486, 487, 488, 156, 160, 489] (by decide +kernel)
set_option maxRecDepth 20000 in
theorem in_wsL_law0_r21 : ∀ w ∈ wsL_law0_r21, w ∈ lw_tbl := mem_pl [491, 20, 492, 493, 495, 21, 496, 153, 497, 498, 499, 500, 501, 502, 503, 504, 505, 507, 22, 508, 509, 510, 515, 511] (by decide +kernel)
set_option maxRecDepth 20000 in
theorem in_wsL_law0_r22 : ∀ w ∈ wsL_law0_r22, w ∈ lw_tbl := mem_pl [513, 23, 514, 516, 518, 24, 519, 520, 521, 522, 523, 524, 910, 911, 912, 913, 914, 916, 41, 917, 918, 920, 42, 921] (by decide +kernel)
set_option maxRecDepth 20000 in
theorem in_wsL_law0_r23 : ∀ w ∈ wsL_law0_r23, w ∈ lw_tbl := mem_pl [922, 924, 43, 925, 926, 927, 928, 929, 930, 932, 44, 933, 525, 526, 527, 528, 193, 191, 934, 935, 936, 937, 529, 530] (by decide +kernel)
set_option maxRecDepth 20000 in
theorem in_wsL_law0_r24 : ∀ w ∈ wsL_law0_r24, w ∈ lw_tbl := mem_pl [531, 532, 195, 533, 534, 535, 536, 537, 539, 25, 540, 938, 939, 940, 941, 942, 944, 45, 945, 541, 542, 543, 544, 545] (by decide +kernel)
set_option maxRecDepth 20000 in
theorem in_wsL_law0_r25 : ∀ w ∈ wsL_law0_r25, w ∈ lw_tbl := mem_pl [546, 547, 548, 549, 550, 551, 552, 946, 947, 948, 949, 553, 554, 555, 556, 557, 558, 559, 560, 561, 950, 951, 952, 953] (by decide +kernel)
set_option maxRecDepth 20000 in
theorem in_wsL_law0_r26 : ∀ w ∈ wsL_law0_r26, w ∈ lw_tbl := mem_pl [562, 563, 564, 565, 566, 567, 568, 569, 572, 570, 571, 573, 575, 26, 576, 954, 955, 956, 957, 577, 578, 579, 580, 958] (by decide +kernel)
set_option maxRecDepth 20000 in
theorem in_wsL_law0_r27 : ∀ w ∈ wsL_law0_r27, w ∈ lw_tbl := mem_pl [959, 960, 961, 581, 582, 583, 584, 585, 586, 587, 588, 159, 589, 591, 27, 592, 593, 594, 595, 152, 596, 598, 28, 599] (by decide +kernel)
set_option maxRecDepth 20000 in
theorem in_wsL_law0_r28 : ∀ w ∈ wsL_law0_r28, w ∈ lw_tbl := mem_pl [962, 963, 964, 965, 723, 608, 609, 46, 610, 611, 612, 613, 614, 615, 616, 62, 212, 210, 966, 967, 968, 969, 600, 601] (by decide +kernel)
set_option maxRecDepth 20000 in
theorem in_wsL_law0_r29 : ∀ w ∈ wsL_law0_r29, w ∈ lw_tbl := mem_pl [602, 603, 970, 971, 972, 973, 604, 605, 606, 607, 974, 975, 976, 977] (by decide +kernel)
set_option maxRecDepth 20000 in
theorem in_wsX70 : ∀ w ∈ wsX70, w ∈ lw_tbl := mem_pl [240, 242, 244, 246, 248, 250, 252, 254, 256, 258, 260, 262, 264, 266, 268, 270, 272, 274] (by decide +kernel)
set_option maxRecDepth 20000 in
theorem in_wsX80 : ∀ w ∈ wsX80, w ∈ lw_tbl := mem_pl [724, 726, 728, 730, 732, 734, 736, 738, 740, 742, 744, 746, 748, 750, 752, 754, 756, 758, 760, 762, 764, 766, 768, 770, 772, 774, 776, 778, 780, 782, 784, 786, 788, 790, 792, 794, 796, 798] (by decide +kernel)
set_option maxRecDepth 20000 in
theorem in_wsX40 : ∀ w ∈ wsX40, w ∈ lw_tbl := mem_pl [80, 82] (by decide +kernel)
set_option maxRecDepth 20000 in
theorem in_wsX60 : ∀ w ∈ wsX60, w ∈ lw_tbl := mem_pl [105, 107, 109] (by decide +kernel)
set_option maxRecDepth 20000 in
theorem in_wsX20 : ∀ w ∈ wsX20, w ∈ lw_tbl := mem_pl [134, 136, 138, 140, 142] (by decide +kernel)
set_option maxRecDepth 20000 in
theorem in_wsX50 : ∀ w ∈ wsX50, w ∈ lw_tbl := mem_pl [165, 167, 169, 171, 173, 175, 177, 179, 181] (by decide +kernel)
set_option maxRecDepth 20000 in
theorem in_wsX10 : ∀ w ∈ wsX10, w ∈ lw_tbl := mem_pl [196, 198, 200] (by decide +kernel)
set_option maxRecDepth 20000 in
theorem in_wsX30 : ∀ w ∈ wsX30, w ∈ lw_tbl := mem_pl [214, 216, 218] (by decide +kernel)
set_option maxRecDepth 20000 in
theorem in_wsX00 : ∀ w ∈ wsX00, w ∈ lw_tbl := mem_pl [383, 385, 387] (by decide +kernel)
theorem wsL_law_in0 : ∀ w ∈ wsL_law0, w ∈ lw_tbl := (List.forall_mem_append.mpr ⟨(List.forall_mem_append.mpr ⟨(List.forall_mem_append.mpr ⟨(List.forall_mem_append.mpr ⟨(List.forall_mem_append.mpr ⟨(List.forall_mem_append.mpr ⟨(List.forall_mem_append.mpr ⟨(List.forall_mem_append.mpr ⟨(List.forall_mem_append.mpr ⟨(List.forall_mem_append.mpr ⟨(List.forall_mem_append.mpr ⟨in_wsL_law0_r1, (List.forall_mem_append.mpr ⟨in_wsL_law0_r2, (List.forall_mem_append.mpr ⟨in_wsL_law0_r3, (List.forall_mem_append.mpr ⟨in_wsL_law0_r4, (List.forall_mem_append.mpr ⟨in_wsL_law0_r5, (List.forall_mem_append.mpr ⟨in_wsL_law0_r6, (List.forall_mem_append.mpr ⟨in_wsL_law0_r7, (List.forall_mem_append.mpr ⟨in_wsL_law0_r8, (List.forall_mem_append.mpr ⟨in_wsL_law0_r9, (List.forall_mem_append.mpr ⟨in_wsL_law0_r10, (List.forall_mem_append.mpr ⟨in_wsL_law0_r11, (List.forall_mem_append.mpr ⟨in_wsL_law0_r12, (List.forall_mem_append.mpr ⟨in_wsL_law0_r13, (List.forall_mem_append.mpr ⟨in_wsL_law0_r14, (List.forall_mem_append.mpr ⟨in_wsL_law0_r15, (List.forall_mem_append.mpr ⟨in_wsL_law0_r16, (List.forall_mem_append.mpr ⟨in_wsL_law0_r17, (List.forall_mem_append.mpr ⟨in_wsL_law0_r18, (List.forall_mem_append.mpr ⟨in_wsL_law0_r19, (List.forall_mem_append.mpr ⟨in_wsL_law0_r20, (List.forall_mem_append.mpr ⟨in_wsL_law0_r21, (List.forall_mem_append.mpr ⟨in_wsL_law0_r22, (List.forall_mem_append.mpr ⟨in_wsL_law0_r23, (List.forall_mem_append.mpr ⟨in_wsL_law0_r24, (List.forall_mem_append.mpr ⟨in_wsL_law0_r25, (List.forall_mem_append.mpr ⟨in_wsL_law0_r26, (List.forall_mem_append.mpr ⟨in_wsL_law0_r27, (List.forall_mem_append.mpr ⟨in_wsL_law0_r28, in_wsL_law0_r29⟩)⟩)⟩)⟩)⟩)⟩)⟩)⟩)⟩)⟩)⟩)⟩)⟩)⟩)⟩)⟩)⟩)⟩)⟩)⟩)⟩)⟩)⟩)⟩)⟩)⟩)⟩)⟩), in_wsX70⟩), in_wsX80⟩), in_wsX40⟩), in_wsX60⟩), in_wsX20⟩), in_wsX50⟩), in_wsX10⟩), in_wsX30⟩), in_wsX00⟩), (fun _ h => absurd h List.not_mem_nil)⟩)
theorem wsL_law_x0 : ∀ w ∈ (vx_at0 RX7 255 "java/util/NoSuchElementException" ["java/lang/RuntimeException", "java/lang/Exception"]).filter goodWord, w ∈ lw_tbl := by decide +kernel
theorem wsL_law_in : ∀ w ∈ wsL_law, w ∈ lw_tbl := fun w h => (List.mem_append.mp h).elim (fun h => wsL_law_in0 w h) (fun h => wsL_law_x0 w h)
theorem inlX0 : ∀ w ∈ wsX00, w ∈ wsL_law := fun _ h => List.mem_append_left _ (List.mem_append_left _ (List.mem_append_right _ h))
theorem inX0 : ∀ w ∈ wsX00, w ∈ lw_tbl := fun w h => wsL_law_in w (inlX0 w h)
theorem inlX1 : ∀ w ∈ wsX10, w ∈ wsL_law := fun _ h => List.mem_append_left _ (List.mem_append_left _ (List.mem_append_left _ (List.mem_append_left _ (List.mem_append_right _ h))))
theorem inX1 : ∀ w ∈ wsX10, w ∈ lw_tbl := fun w h => wsL_law_in w (inlX1 w h)
theorem inlX2 : ∀ w ∈ wsX20, w ∈ wsL_law := fun _ h => List.mem_append_left _ (List.mem_append_left _ (List.mem_append_left _ (List.mem_append_left _ (List.mem_append_left _ (List.mem_append_left _ (List.mem_append_right _ h))))))
theorem inX2 : ∀ w ∈ wsX20, w ∈ lw_tbl := fun w h => wsL_law_in w (inlX2 w h)
theorem inlX3 : ∀ w ∈ wsX30, w ∈ wsL_law := fun _ h => List.mem_append_left _ (List.mem_append_left _ (List.mem_append_left _ (List.mem_append_right _ h)))
theorem inX3 : ∀ w ∈ wsX30, w ∈ lw_tbl := fun w h => wsL_law_in w (inlX3 w h)
theorem inlX4 : ∀ w ∈ wsX40, w ∈ wsL_law := fun _ h => List.mem_append_left _ (List.mem_append_left _ (List.mem_append_left _ (List.mem_append_left _ (List.mem_append_left _ (List.mem_append_left _ (List.mem_append_left _ (List.mem_append_left _ (List.mem_append_right _ h))))))))
theorem inX4 : ∀ w ∈ wsX40, w ∈ lw_tbl := fun w h => wsL_law_in w (inlX4 w h)
theorem inlX5 : ∀ w ∈ wsX50, w ∈ wsL_law := fun _ h => List.mem_append_left _ (List.mem_append_left _ (List.mem_append_left _ (List.mem_append_left _ (List.mem_append_left _ (List.mem_append_right _ h)))))
theorem inX5 : ∀ w ∈ wsX50, w ∈ lw_tbl := fun w h => wsL_law_in w (inlX5 w h)
theorem inlX6 : ∀ w ∈ wsX60, w ∈ wsL_law := fun _ h => List.mem_append_left _ (List.mem_append_left _ (List.mem_append_left _ (List.mem_append_left _ (List.mem_append_left _ (List.mem_append_left _ (List.mem_append_left _ (List.mem_append_right _ h)))))))
theorem inX6 : ∀ w ∈ wsX60, w ∈ lw_tbl := fun w h => wsL_law_in w (inlX6 w h)
theorem inlX7 : ∀ w ∈ wsX70, w ∈ wsL_law := fun _ h => List.mem_append_left _ (List.mem_append_left _ (List.mem_append_left _ (List.mem_append_left _ (List.mem_append_left _ (List.mem_append_left _ (List.mem_append_left _ (List.mem_append_left _ (List.mem_append_left _ (List.mem_append_left _ (List.mem_append_right _ h))))))))))
theorem inX7 : ∀ w ∈ wsX70, w ∈ lw_tbl := fun w h => wsL_law_in w (inlX7 w h)
theorem inlX8 : ∀ w ∈ wsX80, w ∈ wsL_law := fun _ h => List.mem_append_left _ (List.mem_append_left _ (List.mem_append_left _ (List.mem_append_left _ (List.mem_append_left _ (List.mem_append_left _ (List.mem_append_left _ (List.mem_append_left _ (List.mem_append_left _ (List.mem_append_right _ h)))))))))
theorem inX8 : ∀ w ∈ wsX80, w ∈ lw_tbl := fun w h => wsL_law_in w (inlX8 w h)
theorem inJ6 : ∀ w ∈ wsJ60, w ∈ lw_tbl := by decide +kernel
theorem inJ9 : ∀ w ∈ wsJ90, w ∈ lw_tbl := by decide +kernel
theorem inJ10 : ∀ w ∈ wsJ100, w ∈ lw_tbl := by decide +kernel
