set_option maxRecDepth 20000 in
theorem ggL_law_X8_init : GoodIn wsL_law wsX8_init := goodIn_r _ [9, 10, 11, 12, 13, 14, 15, 16, 17, 18, 19, 20, 21, 22, 23, 24, 25, 26, 27, 28, 29, 30, 31, 32, 33, 34, 35, 36, 37, 38, 39, 40, 41, 42, 43, 44, 45, 46, 47, 48, 49, 50, 51, 52, 53, 54, 55, 56, 735, 736, 737, 738, 739, 740, 741, 742, 743, 744, 745, 746, 747, 748, 749, 792, 793, 794, 795, 796, 797, 798, 799, 800, 801, 802, 803, 804, 805] (by decide +kernel) (by decide +kernel)
set_option maxRecDepth 20000 in
theorem gL_law_X8_init : GoodIn wsL_law (wsX8_init) := ggL_law_X8_init
set_option maxRecDepth 20000 in
theorem ggL_law_X9_init : GoodIn wsL_law wsX9_init := goodIn_r _ [59, 60, 11, 12, 61, 62, 63, 64, 65, 66, 67, 68, 69, 70, 71, 72, 73, 74, 75, 76, 77, 78, 79, 80, 81, 82, 83, 84, 85, 86, 87, 88, 89, 90, 91, 92, 93, 94, 95, 750, 751, 752, 753, 754, 755, 756, 757, 758, 759, 760, 761, 762, 763, 764, 765, 766, 767, 768, 769, 770, 771, 772, 773, 774, 775, 776, 777, 778, 779, 780, 781, 782, 783, 784, 785, 786, 787, 788, 789, 790, 791] (by decide +kernel) (by decide +kernel)
set_option maxRecDepth 20000 in
theorem gL_law_X9_init : GoodIn wsL_law (wsX9_init) := ggL_law_X9_init
set_option maxRecDepth 20000 in
theorem ggL_law_X8_type : GoodIn wsL_law wsX8_type := goodIn_r _ [99, 14, 15, 13, 35, 36, 100, 101, 102, 2, 103, 104, 105, 106, 107, 108, 109, 42, 43, 44, 11, 12, 45, 46, 47, 48, 49, 50, 51, 52, 53, 54, 55, 56, 735, 736, 737, 738, 739, 740, 741, 742, 743, 744, 745, 746, 747, 748, 749, 794, 795, 796, 797, 798, 799, 800, 801, 802, 803, 804, 805] (by decide +kernel) (by decide +kernel)
set_option maxRecDepth 20000 in
theorem gL_law_X8_type : GoodIn wsL_law (wsV RL 13 RX8 yX8_type wsX8_type) := goodIn_app (goodIn_of _ (by decide +kernel)) ggL_law_X8_type
set_option maxRecDepth 20000 in
theorem ggL_law_X9_type : GoodIn wsL_law wsX9_type := goodIn_r _ [113, 114, 115, 64, 61, 63, 65, 67, 68, 116, 117, 118, 5, 119, 120, 121, 122, 750, 751, 752, 753, 754, 755, 756, 757, 758, 759, 760, 761, 762, 763, 764, 765, 766, 767, 768, 769, 770, 771, 772, 773, 774, 775, 776, 777, 778, 779, 780, 781, 782, 783, 784, 785, 786, 787, 788, 789, 790, 791] (by decide +kernel) (by decide +kernel)
set_option maxRecDepth 20000 in
theorem gL_law_X9_type : GoodIn wsL_law (wsV RL 17 RX9 yX9_type wsX9_type) := goodIn_app (goodIn_of _ (by decide +kernel)) ggL_law_X9_type
set_option maxRecDepth 20000 in
theorem ggL_law_X8_constants : GoodIn wsL_law wsX8_constants := goodIn_r _ [126, 14, 100, 101, 102, 2, 103, 15, 735, 736, 737, 738, 739, 740, 741, 742, 743, 744, 745, 746, 747, 748, 749, 794, 795, 796, 797, 798, 799, 800, 801, 802, 803, 804, 805] (by decide +kernel) (by decide +kernel)
set_option maxRecDepth 20000 in
theorem gL_law_X8_constants : GoodIn wsL_law (wsV RL 18 RX8 yX8_constants wsX8_constants) := goodIn_app (goodIn_of _ (by decide +kernel)) ggL_law_X8_constants
set_option maxRecDepth 20000 in
theorem ggL_law_X9_constants : GoodIn wsL_law wsX9_constants := goodIn_r _ [130, 114, 115, 64, 70, 69, 116, 117, 118, 5, 119, 61, 120, 121, 122, 750, 751, 752, 753, 754, 755, 756, 757, 758, 759, 760, 761, 762, 763, 764, 765, 766, 767, 768, 769, 770, 771, 772, 773, 774, 775, 776, 777, 778, 779, 780, 781, 782, 783, 784, 785, 786, 787, 788, 789, 790, 791] (by decide +kernel) (by decide +kernel)
set_option maxRecDepth 20000 in
theorem gL_law_X9_constants : GoodIn wsL_law (wsV RL 22 RX9 yX9_constants wsX9_constants) := goodIn_app (goodIn_of _ (by decide +kernel)) ggL_law_X9_constants
set_option maxRecDepth 20000 in
theorem ggL_law_X8_field : GoodIn wsL_law wsX8_field := goodIn_r _ [134, 14, 25, 18, 19, 135, 136, 137, 100, 101, 102, 2, 103, 15, 138, 139, 140, 141, 142, 143, 144, 145, 146, 147, 148, 149, 150, 151, 17, 152, 153, 154, 155, 156, 157, 158, 159, 160, 161, 162, 163, 164, 165, 166, 167, 11, 12, 168, 169, 170, 171, 172, 173, 174, 175, 735, 736, 737, 738, 739, 740, 741, 742, 743, 744, 745, 746, 747, 748, 749, 806, 807, 808, 809, 810, 811, 812, 813, 814, 794, 795, 796, 797, 798, 799, 800, 801, 802, 803, 804, 805, 815, 816, 817, 818, 819, 820, 821, 822] (by decide +kernel) (by decide +kernel)
set_option maxRecDepth 20000 in
theorem gL_law_X8_field : GoodIn wsL_law (wsV RL 23 RX8 yX8_field wsX8_field) := goodIn_app (goodIn_of _ (by decide +kernel)) ggL_law_X8_field
set_option maxRecDepth 20000 in
theorem ggL_law_X9_field : GoodIn wsL_law wsX9_field := goodIn_r _ [179, 114, 180, 64, 181, 182, 72, 73, 74, 75, 78, 79, 80, 116, 117, 118, 5, 119, 61, 120, 121, 122, 183, 184, 185, 186, 187, 188, 189, 190, 191, 192, 193, 194, 90, 92, 750, 751, 752, 753, 754, 755, 756, 757, 758, 759, 760, 761, 762, 763, 764, 765, 766, 767, 768, 769, 770, 771, 772, 773, 774, 775, 776, 777, 778, 779, 780, 781, 782, 783, 784, 785, 786, 787, 788, 789, 790, 791] (by decide +kernel) (by decide +kernel)
set_option maxRecDepth 20000 in
theorem gL_law_X9_field : GoodIn wsL_law (wsV RL 27 RX9 yX9_field wsX9_field) := goodIn_app (goodIn_of _ (by decide +kernel)) ggL_law_X9_field
set_option maxRecDepth 20000 in
theorem ggL_law_X8_method : GoodIn wsL_law wsX8_method := goodIn_r _ [198, 199, 200, 201, 202, 203, 204, 14, 25, 205, 206, 18, 207, 208, 209, 11, 12, 210, 211, 212, 213, 100, 101, 102, 2, 103, 15, 214, 215, 216, 217, 138, 139, 140, 141, 218, 219, 220, 143, 144, 221, 222, 223, 224, 225, 226, 227, 228, 229, 230, 231, 232, 233, 234, 235, 236, 164, 165, 166, 167, 168, 169, 170, 237, 238, 239, 240, 241, 242, 243, 244, 245, 246, 247, 248, 249, 250, 251, 252, 253, 254, 255, 17, 152, 256, 257, 258, 259, 260, 261, 262, 263, 264, 265, 171, 172, 173, 174, 175, 823, 824, 825, 826, 815, 816, 817, 818, 819, 820, 821, 822, 735, 736, 737, 738, 739, 740, 741, 742, 743, 744, 745, 746, 747, 748, 749, 806, 807, 808, 809, 810, 811, 812, 813, 814, 794, 795, 796, 797, 798, 799, 800, 801, 802, 803, 804, 805] (by decide +kernel) (by decide +kernel)
set_option maxRecDepth 20000 in
theorem gL_law_X8_method : GoodIn wsL_law (wsV RL 28 RX8 yX8_method wsX8_method) := goodIn_app (goodIn_of _ (by decide +kernel)) ggL_law_X8_method
set_option maxRecDepth 20000 in
theorem ggL_law_X9_method : GoodIn wsL_law wsX9_method := goodIn_r _ [269, 114, 180, 270, 271, 272, 64, 182, 72, 181, 73, 74, 76, 77, 75, 78, 81, 80, 82, 83, 116, 117, 118, 5, 119, 61, 120, 121, 122, 183, 184, 185, 186, 273, 274, 275, 276, 277, 278, 279, 280, 750, 751, 752, 753, 754, 755, 756, 757, 758, 759, 760, 761, 762, 763, 764, 765, 766, 767, 768, 769, 770, 771, 772, 773, 774, 775, 776, 777, 778, 779, 780, 781, 782, 783, 784, 785, 786, 787, 788, 789, 790, 791] (by decide +kernel) (by decide +kernel)
set_option maxRecDepth 20000 in
theorem gL_law_X9_method : GoodIn wsL_law (wsV RL 32 RX9 yX9_method wsX9_method) := goodIn_app (goodIn_of _ (by decide +kernel)) ggL_law_X9_method
