theorem memr {big ws : List Cond} (ps : List Nat) (hp : ws = ps.filterMap (fun i => big[i]?)) : ∀ w ∈ ws, w ∈ big := by
  intro w hw
  rw [hp] at hw
  obtain ⟨i, -, hi⟩ := List.mem_filterMap.mp hw
  first | exact List.mem_of_getElem? hi | exact List.getElem?_mem hi
theorem wl_r1 : ∀ w ∈ wsL_law_r1, w ∈ lw_tbl := memr [97, 98, 87, 743, 744, 90, 1088, 99, 100, 101, 102, 103, 104, 105, 183, 184, 107, 185, 186, 187, 109, 188, 189, 111] (by decide +kernel)
theorem wl_r2 : ∀ w ∈ wsL_law_r2, w ∈ lw_tbl := memr [190, 191, 113, 192, 193, 194, 115, 88, 195, 196, 197, 129, 89, 117, 118, 119, 120, 122, 131, 132, 133, 150, 152, 154] (by decide +kernel)
theorem wl_r3 : ∀ w ∈ wsL_law_r3, w ∈ lw_tbl := memr [156, 134, 137, 139, 141, 143, 145, 147, 149, 745, 746, 747, 748, 750, 876, 751, 752, 753, 877, 754, 755, 756, 757, 758] (by decide +kernel)
theorem wl_r4 : ∀ w ∈ wsL_law_r4, w ∈ lw_tbl := memr [760, 761, 762, 763, 764, 765, 766, 767, 768, 769, 770, 771, 774, 775, 777, 778, 779, 780, 781, 567, 782, 784, 785, 790] (by decide +kernel)
theorem wl_r5 : ∀ w ∈ wsL_law_r5, w ∈ lw_tbl := memr [229, 230, 231, 232, 233, 235, 0, 236, 237, 238, 239, 240, 241, 242, 878, 879, 880, 881, 749, 889, 882, 884, 59, 885] (by decide +kernel)
theorem wl_r6 : ∀ w ∈ wsL_law_r6, w ∈ lw_tbl := memr [886, 887, 888, 243, 244, 245, 246, 890, 891, 892, 893, 247, 248, 249, 250, 265, 266, 92, 251, 253, 1, 254, 255, 256] (by decide +kernel)
theorem wl_r7 : ∀ w ∈ wsL_law_r7, w ∈ lw_tbl := memr [257, 258, 259, 260, 261, 263, 2, 264, 265, 291, 292, 268, 269, 275, 277, 279, 283, 274, 281, 285, 271, 91, 272, 273] (by decide +kernel)
theorem wl_r8 : ∀ w ∈ wsL_law_r8, w ∈ lw_tbl := memr [287, 293, 300, 324, 326, 3, 327, 290, 894, 895, 896, 897, 902, 776, 759, 898, 900, 60, 901, 903, 905, 61, 906, 907] (by decide +kernel)
theorem wl_r9 : ∀ w ∈ wsL_law_r9, w ∈ lw_tbl := memr [909, 62, 910, 328, 329, 330, 331, 332, 333, 93, 372, 373, 94, 288, 289, 335, 336, 337, 338, 339, 341, 343, 354, 356] (by decide +kernel)
theorem wl_r10 : ∀ w ∈ wsL_law_r10, w ∈ lw_tbl := memr [4, 357, 360, 5, 361, 363, 364, 365, 366, 367, 368, 369, 370, 371, 375, 376, 379, 381, 383, 385, 387, 403, 404, 405] (by decide +kernel)
theorem wl_r11 : ∀ w ∈ wsL_law_r11, w ∈ lw_tbl := memr [296, 295, 406, 408, 6, 409, 412, 7, 413, 416, 8, 417, 418, 420, 9, 421, 297, 298, 422, 424, 10, 425, 372, 428] (by decide +kernel)
theorem wl_r12 : ∀ w ∈ wsL_law_r12, w ∈ lw_tbl := memr [11, 429, 911, 912, 913, 914, 915, 916, 917, 918, 920, 63, 921, 922, 924, 64, 925, 430, 431, 432, 433, 926, 927, 928] (by decide +kernel)
theorem wl_r13 : ∀ w ∈ wsL_law_r13, w ∈ lw_tbl := memr [929, 772, 434, 435, 436, 437, 438, 440, 12, 441, 303, 442, 444, 13, 445, 450, 95, 446, 448, 14, 449, 452, 453, 454] (by decide +kernel)
theorem wl_r14 : ∀ w ∈ wsL_law_r14, w ∈ lw_tbl := memr [459, 455, 457, 930, 931, 932, 933, 934, 936, 65, 937, 773, 938, 940, 66, 941, 789, 468, 469, 470, 471, 472, 474, 15] (by decide +kernel)
theorem wl_r15 : ∀ w ∈ wsL_law_r15, w ∈ lw_tbl := memr [475, 476, 478, 16, 479, 942, 943, 944, 945, 946, 948, 67, 949, 480, 481, 482, 483, 484, 486, 17, 487, 950, 951, 952] (by decide +kernel)
theorem wl_r16 : ∀ w ∈ wsL_law_r16, w ∈ lw_tbl := memr [953, 954, 956, 68, 957, 488, 489, 490, 491, 492, 493, 496, 18, 497, 958, 959, 960, 961, 783, 966, 962, 964, 69, 965] (by decide +kernel)
theorem wl_r17 : ∀ w ∈ wsL_law_r17, w ∈ lw_tbl := memr [498, 499, 500, 501, 502, 504, 19, 505, 506, 508, 20, 509, 510, 512, 21, 513, 514, 516, 22, 517, 518, 520, 23, 521] (by decide +kernel)
theorem wl_r18 : ∀ w ∈ wsL_law_r18, w ∈ lw_tbl := memr [299, 522, 524, 24, 525, 528, 25, 529, 530, 532, 26, 533, 534, 536, 27, 537, 538, 96, 539, 541, 28, 542, 544, 545] (by decide +kernel)
theorem wl_r19 : ∀ w ∈ wsL_law_r19, w ∈ lw_tbl := memr [546, 554, 547, 549, 551, 553, 568, 570, 29, 571, 574, 30, 575, 576, 578, 31, 579, 580, 582, 32, 583, 586, 33, 587] (by decide +kernel)
theorem wl_r20 : ∀ w ∈ wsL_law_r20, w ∈ lw_tbl := memr [589, 588, 592, 34, 593, 967, 968, 969, 970, 975, 786, 787, 971, 973, 70, 974, 976, 978, 71, 979, 980, 982, 72, 983] (by decide +kernel)
theorem wl_r21 : ∀ w ∈ wsL_law_r21, w ∈ lw_tbl := memr [984, 986, 73, 987, 988, 990, 74, 991, 992, 994, 75, 995, 996, 998, 76, 999, 1000, 1002, 77, 1003, 594, 595, 596, 597] (by decide +kernel)
theorem wl_r22 : ∀ w ∈ wsL_law_r22, w ∈ lw_tbl := memr [598, 600, 35, 601, 602, 604, 36, 605, 606, 608, 37, 609, 612, 38, 613, 614, 616, 39, 617, 1004, 1005, 1006, 1007, 1008] (by decide +kernel)
theorem wl_r23 : ∀ w ∈ wsL_law_r23, w ∈ lw_tbl := memr [1010, 78, 1011, 1012, 1014, 79, 1015, 618, 619, 620, 621, 622, 624, 40, 625, 626, 628, 41, 629, 630, 632, 42, 633, 634] (by decide +kernel)
theorem wl_r24 : ∀ w ∈ wsL_law_r24, w ∈ lw_tbl := memr [636, 43, 637, 638, 640, 44, 641, 642, 644, 45, 645, 646, 648, 46, 649, 650, 652, 47, 653, 304, 302, 656, 48, 657] (by decide +kernel)
theorem wl_r25 : ∀ w ∈ wsL_law_r25, w ∈ lw_tbl := memr [301, 294, 658, 660, 49, 661, 662, 664, 50, 665, 666, 668, 51, 669, 670, 672, 52, 673, 674, 676, 53, 677, 678, 679] (by decide +kernel)
theorem wl_r26 : ∀ w ∈ wsL_law_r26, w ∈ lw_tbl := memr [681, 54, 682, 685, 55, 686, 1016, 1017, 1018, 1019, 1020, 1022, 80, 1023, 1024, 1026, 81, 1027, 1028, 1030, 82, 1031, 1032, 1034] (by decide +kernel)
theorem wl_r27 : ∀ w ∈ wsL_law_r27, w ∈ lw_tbl := memr [83, 1035, 788, 1036, 1038, 84, 1039, 687, 688, 689, 690, 691, 693, 56, 694, 695, 697, 57, 698, 699, 701, 58, 702, 1040] (by decide +kernel)
theorem wl_r28 : ∀ w ∈ wsL_law_r28, w ∈ lw_tbl := memr [1041, 1042, 1043, 1044, 1046, 85, 1047, 703, 704, 705, 706, 1048, 1049, 1050, 1051, 707, 708, 709, 710, 1052, 1053, 1054, 1055, 711] (by decide +kernel)
theorem wl_r29 : ∀ w ∈ wsL_law_r29, w ∈ lw_tbl := memr [712, 713, 714, 1056, 1057, 1058, 1059, 715, 716, 717, 718, 1060, 1061, 1062, 1063, 719, 720, 721, 722, 1064, 1065, 1066, 1067, 723] (by decide +kernel)
theorem wl_r30 : ∀ w ∈ wsL_law_r30, w ∈ lw_tbl := memr [724, 725, 726, 1068, 1069, 1070, 1071, 727, 728, 729, 730, 1072, 1073, 1074, 1075, 731, 732, 733, 734, 1076, 1077, 1078, 1079, 735] (by decide +kernel)
theorem wl_r31 : ∀ w ∈ wsL_law_r31, w ∈ lw_tbl := memr [736, 737, 738, 1080, 1081, 1082, 1083, 739, 740, 741, 742, 1084, 1085, 1086, 1087] (by decide +kernel)
theorem wl_X8 : ∀ w ∈ wsX80, w ∈ lw_tbl := memr [198, 200, 202, 204, 206, 208, 210, 212, 214, 216, 218, 220, 222, 224, 226] (by decide +kernel)
theorem wl_X9 : ∀ w ∈ wsX90, w ∈ lw_tbl := memr [791, 793, 795, 797, 799, 801, 803, 805, 807, 809, 811, 813, 815, 817, 819, 821, 823, 825, 827, 829, 831, 833, 835, 837, 839, 841, 843, 845, 847, 849, 851, 853, 855, 857, 859, 861, 863, 865, 867, 869, 871, 873] (by decide +kernel)
theorem wl_X7 : ∀ w ∈ wsX70, w ∈ lw_tbl := memr [124, 126] (by decide +kernel)
theorem wl_X0 : ∀ w ∈ wsX00, w ∈ lw_tbl := memr [158, 160, 162, 164, 166, 168, 170, 172, 174, 176, 178, 180] (by decide +kernel)
theorem wl_X1 : ∀ w ∈ wsX10, w ∈ lw_tbl := memr [317, 319, 321, 305, 307, 309, 311, 313, 315] (by decide +kernel)
theorem wl_X4 : ∀ w ∈ wsX40, w ∈ lw_tbl := memr [399, 400, 401, 389, 391, 393, 395, 397] (by decide +kernel)
theorem wl_X5 : ∀ w ∈ wsX50, w ∈ lw_tbl := memr [345, 347, 349, 351] (by decide +kernel)
theorem wl_X2 : ∀ w ∈ wsX20, w ∈ lw_tbl := memr [461, 463, 465] (by decide +kernel)
theorem wl_X6 : ∀ w ∈ wsX60, w ∈ lw_tbl := memr [556, 558, 560, 562, 564] (by decide +kernel)
theorem wsL_in : ∀ w ∈ wsL_law, w ∈ lw_tbl := List.forall_mem_append.mpr ⟨List.forall_mem_append.mpr ⟨List.forall_mem_append.mpr ⟨List.forall_mem_append.mpr ⟨List.forall_mem_append.mpr ⟨List.forall_mem_append.mpr ⟨List.forall_mem_append.mpr ⟨List.forall_mem_append.mpr ⟨List.forall_mem_append.mpr ⟨List.forall_mem_append.mpr ⟨List.forall_mem_append.mpr ⟨wl_r1, List.forall_mem_append.mpr ⟨wl_r2, List.forall_mem_append.mpr ⟨wl_r3, List.forall_mem_append.mpr ⟨wl_r4, List.forall_mem_append.mpr ⟨wl_r5, List.forall_mem_append.mpr ⟨wl_r6, List.forall_mem_append.mpr ⟨wl_r7, List.forall_mem_append.mpr ⟨wl_r8, List.forall_mem_append.mpr ⟨wl_r9, List.forall_mem_append.mpr ⟨wl_r10, List.forall_mem_append.mpr ⟨wl_r11, List.forall_mem_append.mpr ⟨wl_r12, List.forall_mem_append.mpr ⟨wl_r13, List.forall_mem_append.mpr ⟨wl_r14, List.forall_mem_append.mpr ⟨wl_r15, List.forall_mem_append.mpr ⟨wl_r16, List.forall_mem_append.mpr ⟨wl_r17, List.forall_mem_append.mpr ⟨wl_r18, List.forall_mem_append.mpr ⟨wl_r19, List.forall_mem_append.mpr ⟨wl_r20, List.forall_mem_append.mpr ⟨wl_r21, List.forall_mem_append.mpr ⟨wl_r22, List.forall_mem_append.mpr ⟨wl_r23, List.forall_mem_append.mpr ⟨wl_r24, List.forall_mem_append.mpr ⟨wl_r25, List.forall_mem_append.mpr ⟨wl_r26, List.forall_mem_append.mpr ⟨wl_r27, List.forall_mem_append.mpr ⟨wl_r28, List.forall_mem_append.mpr ⟨wl_r29, List.forall_mem_append.mpr ⟨wl_r30, wl_r31⟩⟩⟩⟩⟩⟩⟩⟩⟩⟩⟩⟩⟩⟩⟩⟩⟩⟩⟩⟩⟩⟩⟩⟩⟩⟩⟩⟩⟩⟩, wl_X8⟩, wl_X9⟩, wl_X7⟩, wl_X0⟩, wl_X1⟩, wl_X4⟩, wl_X5⟩, wl_X2⟩, wl_X6⟩, fun _ h => absurd h List.not_mem_nil⟩
theorem wk_X8 : ∀ w ∈ wsX80, w ∈ wsL_law := fun _ h => List.mem_append_left _ (List.mem_append_left _ (List.mem_append_left _ (List.mem_append_left _ (List.mem_append_left _ (List.mem_append_left _ (List.mem_append_left _ (List.mem_append_left _ (List.mem_append_left _ (List.mem_append_right _ h)))))))))
theorem wk_X9 : ∀ w ∈ wsX90, w ∈ wsL_law := fun _ h => List.mem_append_left _ (List.mem_append_left _ (List.mem_append_left _ (List.mem_append_left _ (List.mem_append_left _ (List.mem_append_left _ (List.mem_append_left _ (List.mem_append_left _ (List.mem_append_right _ h))))))))
theorem wk_X7 : ∀ w ∈ wsX70, w ∈ wsL_law := fun _ h => List.mem_append_left _ (List.mem_append_left _ (List.mem_append_left _ (List.mem_append_left _ (List.mem_append_left _ (List.mem_append_left _ (List.mem_append_left _ (List.mem_append_right _ h)))))))
theorem wk_X0 : ∀ w ∈ wsX00, w ∈ wsL_law := fun _ h => List.mem_append_left _ (List.mem_append_left _ (List.mem_append_left _ (List.mem_append_left _ (List.mem_append_left _ (List.mem_append_left _ (List.mem_append_right _ h))))))
theorem wk_X1 : ∀ w ∈ wsX10, w ∈ wsL_law := fun _ h => List.mem_append_left _ (List.mem_append_left _ (List.mem_append_left _ (List.mem_append_left _ (List.mem_append_left _ (List.mem_append_right _ h)))))
theorem wk_X4 : ∀ w ∈ wsX40, w ∈ wsL_law := fun _ h => List.mem_append_left _ (List.mem_append_left _ (List.mem_append_left _ (List.mem_append_left _ (List.mem_append_right _ h))))
theorem wk_X5 : ∀ w ∈ wsX50, w ∈ wsL_law := fun _ h => List.mem_append_left _ (List.mem_append_left _ (List.mem_append_left _ (List.mem_append_right _ h)))
theorem wk_X2 : ∀ w ∈ wsX20, w ∈ wsL_law := fun _ h => List.mem_append_left _ (List.mem_append_left _ (List.mem_append_right _ h))
theorem wk_X6 : ∀ w ∈ wsX60, w ∈ wsL_law := fun _ h => List.mem_append_left _ (List.mem_append_right _ h)
theorem inL_law_8 : ∀ w ∈ u_ws RX8 TX8 15, w ∈ wsL_law := wk_X8
theorem inL_law_9 : ∀ w ∈ u_ws RX9 TX9 42, w ∈ wsL_law := wk_X9
theorem df_X8 : ∀ j, j < 15 → defaultValue (tyX8 j) = vp_V [.null, .int 0, .null, .int 0, .int 0, .null, .int 0, .null, .int 0, .null, .int 0, .int 0, .null, .int 0, .int 0] j := by
  intro j hj
  have h : j = 0 ∨ j = 1 ∨ j = 2 ∨ j = 3 ∨ j = 4 ∨ j = 5 ∨ j = 6 ∨ j = 7 ∨ j = 8 ∨ j = 9 ∨ j = 10 ∨ j = 11 ∨ j = 12 ∨ j = 13 ∨ j = 14 := by omega
  rcases h with rfl | rfl | rfl | rfl | rfl | rfl | rfl | rfl | rfl | rfl | rfl | rfl | rfl | rfl | rfl <;> rfl
theorem df_X9 : ∀ j, j < 42 → defaultValue (tyX9 j) = vp_V [.int 0, .int 0, .null, .null, .null, .null, .null, .null, .null, .null, .int 0, .null, .null, .null, .null, .null, .null, .null, .null, .null, .null, .null, .null, .int 0, .int 0, .null, .null, .int 0, .null, .null, .null, .null, .null, .null, .int 0, .null, .null, .int 0, .long 0, .int 0, .int 0, .null] j := by
  intro j hj
  have h : j = 0 ∨ j = 1 ∨ j = 2 ∨ j = 3 ∨ j = 4 ∨ j = 5 ∨ j = 6 ∨ j = 7 ∨ j = 8 ∨ j = 9 ∨ j = 10 ∨ j = 11 ∨ j = 12 ∨ j = 13 ∨ j = 14 ∨ j = 15 ∨ j = 16 ∨ j = 17 ∨ j = 18 ∨ j = 19 ∨ j = 20 ∨ j = 21 ∨ j = 22 ∨ j = 23 ∨ j = 24 ∨ j = 25 ∨ j = 26 ∨ j = 27 ∨ j = 28 ∨ j = 29 ∨ j = 30 ∨ j = 31 ∨ j = 32 ∨ j = 33 ∨ j = 34 ∨ j = 35 ∨ j = 36 ∨ j = 37 ∨ j = 38 ∨ j = 39 ∨ j = 40 ∨ j = 41 := by omega
  rcases h with rfl | rfl | rfl | rfl | rfl | rfl | rfl | rfl | rfl | rfl | rfl | rfl | rfl | rfl | rfl | rfl | rfl | rfl | rfl | rfl | rfl | rfl | rfl | rfl | rfl | rfl | rfl | rfl | rfl | rfl | rfl | rfl | rfl | rfl | rfl | rfl | rfl | rfl | rfl | rfl | rfl | rfl <;> rfl
theorem tw_0_22 {x : Int32} (h1 : ¬ x.toInt < 0) (h2 : ¬ 22 < x.toInt) : x = 0 ∨ x = 1 ∨ x = 2 ∨ x = 3 ∨ x = 4 ∨ x = 5 ∨ x = 6 ∨ x = 7 ∨ x = 8 ∨ x = 9 ∨ x = 10 ∨ x = 11 ∨ x = 12 ∨ x = 13 ∨ x = 14 ∨ x = 15 ∨ x = 16 ∨ x = 17 ∨ x = 18 ∨ x = 19 ∨ x = 20 ∨ x = 21 ∨ x = 22 := by
  have h : x.toInt = 0 ∨ x.toInt = 1 ∨ x.toInt = 2 ∨ x.toInt = 3 ∨ x.toInt = 4 ∨ x.toInt = 5 ∨ x.toInt = 6 ∨ x.toInt = 7 ∨ x.toInt = 8 ∨ x.toInt = 9 ∨ x.toInt = 10 ∨ x.toInt = 11 ∨ x.toInt = 12 ∨ x.toInt = 13 ∨ x.toInt = 14 ∨ x.toInt = 15 ∨ x.toInt = 16 ∨ x.toInt = 17 ∨ x.toInt = 18 ∨ x.toInt = 19 ∨ x.toInt = 20 ∨ x.toInt = 21 ∨ x.toInt = 22 := by omega
  rcases h with h | h | h | h | h | h | h | h | h | h | h | h | h | h | h | h | h | h | h | h | h | h | h
  · exact Or.inl (iof (by decide) h)
  · exact Or.inr (Or.inl (iof (by decide) h))
  · exact Or.inr (Or.inr (Or.inl (iof (by decide) h)))
  · exact Or.inr (Or.inr (Or.inr (Or.inl (iof (by decide) h))))
  · exact Or.inr (Or.inr (Or.inr (Or.inr (Or.inl (iof (by decide) h)))))
  · exact Or.inr (Or.inr (Or.inr (Or.inr (Or.inr (Or.inl (iof (by decide) h))))))
  · exact Or.inr (Or.inr (Or.inr (Or.inr (Or.inr (Or.inr (Or.inl (iof (by decide) h)))))))
  · exact Or.inr (Or.inr (Or.inr (Or.inr (Or.inr (Or.inr (Or.inr (Or.inl (iof (by decide) h))))))))
  · exact Or.inr (Or.inr (Or.inr (Or.inr (Or.inr (Or.inr (Or.inr (Or.inr (Or.inl (iof (by decide) h)))))))))
  · exact Or.inr (Or.inr (Or.inr (Or.inr (Or.inr (Or.inr (Or.inr (Or.inr (Or.inr (Or.inl (iof (by decide) h))))))))))
  · exact Or.inr (Or.inr (Or.inr (Or.inr (Or.inr (Or.inr (Or.inr (Or.inr (Or.inr (Or.inr (Or.inl (iof (by decide) h)))))))))))
  · exact Or.inr (Or.inr (Or.inr (Or.inr (Or.inr (Or.inr (Or.inr (Or.inr (Or.inr (Or.inr (Or.inr (Or.inl (iof (by decide) h))))))))))))
  · exact Or.inr (Or.inr (Or.inr (Or.inr (Or.inr (Or.inr (Or.inr (Or.inr (Or.inr (Or.inr (Or.inr (Or.inr (Or.inl (iof (by decide) h)))))))))))))
  · exact Or.inr (Or.inr (Or.inr (Or.inr (Or.inr (Or.inr (Or.inr (Or.inr (Or.inr (Or.inr (Or.inr (Or.inr (Or.inr (Or.inl (iof (by decide) h))))))))))))))
  · exact Or.inr (Or.inr (Or.inr (Or.inr (Or.inr (Or.inr (Or.inr (Or.inr (Or.inr (Or.inr (Or.inr (Or.inr (Or.inr (Or.inr (Or.inl (iof (by decide) h)))))))))))))))
  · exact Or.inr (Or.inr (Or.inr (Or.inr (Or.inr (Or.inr (Or.inr (Or.inr (Or.inr (Or.inr (Or.inr (Or.inr (Or.inr (Or.inr (Or.inr (Or.inl (iof (by decide) h))))))))))))))))
  · exact Or.inr (Or.inr (Or.inr (Or.inr (Or.inr (Or.inr (Or.inr (Or.inr (Or.inr (Or.inr (Or.inr (Or.inr (Or.inr (Or.inr (Or.inr (Or.inr (Or.inl (iof (by decide) h)))))))))))))))))
  · exact Or.inr (Or.inr (Or.inr (Or.inr (Or.inr (Or.inr (Or.inr (Or.inr (Or.inr (Or.inr (Or.inr (Or.inr (Or.inr (Or.inr (Or.inr (Or.inr (Or.inr (Or.inl (iof (by decide) h))))))))))))))))))
  · exact Or.inr (Or.inr (Or.inr (Or.inr (Or.inr (Or.inr (Or.inr (Or.inr (Or.inr (Or.inr (Or.inr (Or.inr (Or.inr (Or.inr (Or.inr (Or.inr (Or.inr (Or.inr (Or.inl (iof (by decide) h)))))))))))))))))))
  · exact Or.inr (Or.inr (Or.inr (Or.inr (Or.inr (Or.inr (Or.inr (Or.inr (Or.inr (Or.inr (Or.inr (Or.inr (Or.inr (Or.inr (Or.inr (Or.inr (Or.inr (Or.inr (Or.inr (Or.inl (iof (by decide) h))))))))))))))))))))
  · exact Or.inr (Or.inr (Or.inr (Or.inr (Or.inr (Or.inr (Or.inr (Or.inr (Or.inr (Or.inr (Or.inr (Or.inr (Or.inr (Or.inr (Or.inr (Or.inr (Or.inr (Or.inr (Or.inr (Or.inr (Or.inl (iof (by decide) h)))))))))))))))))))))
  · exact Or.inr (Or.inr (Or.inr (Or.inr (Or.inr (Or.inr (Or.inr (Or.inr (Or.inr (Or.inr (Or.inr (Or.inr (Or.inr (Or.inr (Or.inr (Or.inr (Or.inr (Or.inr (Or.inr (Or.inr (Or.inr (Or.inl (iof (by decide) h))))))))))))))))))))))
  · exact Or.inr (Or.inr (Or.inr (Or.inr (Or.inr (Or.inr (Or.inr (Or.inr (Or.inr (Or.inr (Or.inr (Or.inr (Or.inr (Or.inr (Or.inr (Or.inr (Or.inr (Or.inr (Or.inr (Or.inr (Or.inr (Or.inr ((iof (by decide) h)))))))))))))))))))))))
