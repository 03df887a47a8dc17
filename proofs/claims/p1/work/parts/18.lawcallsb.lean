set_option maxRecDepth 20000 in
theorem ggL_law_X8_caller : GoodIn wsL_law wsX8_caller := goodIn_r _ [284, 29, 100, 101, 102, 2, 103, 15, 735, 736, 737, 738, 739, 740, 741, 742, 743, 744, 745, 746, 747, 748, 749] (by decide +kernel) (by decide +kernel)
set_option maxRecDepth 20000 in
theorem gL_law_X8_caller : GoodIn wsL_law (wsV RL 33 RX8 yX8_caller wsX8_caller) := goodIn_app (goodIn_of _ (by decide +kernel)) ggL_law_X8_caller
set_option maxRecDepth 20000 in
theorem ggL_law_X9_caller : GoodIn wsL_law wsX9_caller := goodIn_r _ [288, 114, 289, 116, 117, 118, 5, 119, 61, 120, 121, 122, 750, 751, 752, 753, 754, 755, 756, 757, 758, 759, 760, 761, 762, 763, 764, 765, 766, 767, 768, 769, 770, 771, 772, 773, 774, 775, 776, 777, 778, 779, 780, 781, 782, 783, 784, 785, 786, 787, 788, 789, 790, 791] (by decide +kernel) (by decide +kernel)
set_option maxRecDepth 20000 in
theorem gL_law_X9_caller : GoodIn wsL_law (wsV RL 37 RX9 yX9_caller wsX9_caller) := goodIn_app (goodIn_of _ (by decide +kernel)) ggL_law_X9_caller
set_option maxRecDepth 20000 in
theorem ggL_law_X8_findField : GoodIn wsL_law wsX8_findField := goodIn_r _ [293, 14, 100, 101, 102, 2, 103, 15, 142, 143, 144, 294, 295, 296, 297, 17, 298, 148, 149, 150, 151, 18, 152, 153, 154, 299, 300, 301, 302, 22, 21, 20, 303, 304, 305, 306, 307, 308, 33, 309, 310, 311, 11, 12, 312, 313, 314, 735, 736, 737, 738, 739, 740, 741, 742, 743, 744, 745, 746, 747, 748, 749, 806, 807, 808, 809, 810, 811, 812, 813, 814, 815, 816, 817, 818, 819, 820, 821, 822, 794, 795, 796, 797, 798, 799, 800, 801, 802, 803, 804, 805, 827, 828, 829] (by decide +kernel) (by decide +kernel)
set_option maxRecDepth 20000 in
theorem gL_law_X8_findField : GoodIn wsL_law (wsV RL 38 RX8 yX8_findField wsX8_findField) := goodIn_app (goodIn_of _ (by decide +kernel)) ggL_law_X8_findField
set_option maxRecDepth 20000 in
theorem ggL_law_X9_findField : GoodIn wsL_law wsX9_findField := goodIn_r _ [318, 114, 180, 182, 72, 73, 74, 80, 63, 116, 117, 118, 5, 119, 61, 120, 121, 122, 319, 320, 321, 322, 323, 84, 85, 324, 325, 326, 327, 328, 750, 751, 752, 753, 754, 755, 756, 757, 758, 759, 760, 761, 762, 763, 764, 765, 766, 767, 768, 769, 770, 771, 772, 773, 774, 775, 776, 777, 778, 779, 780, 781, 782, 783, 784, 785, 786, 787, 788, 789, 790, 791] (by decide +kernel) (by decide +kernel)
set_option maxRecDepth 20000 in
theorem gL_law_X9_findField : GoodIn wsL_law (wsV RL 42 RX9 yX9_findField wsX9_findField) := goodIn_app (goodIn_of _ (by decide +kernel)) ggL_law_X9_findField
set_option maxRecDepth 20000 in
theorem ggL_law_X8_findMethod : GoodIn wsL_law wsX8_findMethod := goodIn_r _ [332, 199, 200, 201, 14, 207, 208, 209, 11, 12, 210, 211, 212, 213, 100, 101, 102, 2, 103, 15, 214, 215, 216, 217, 138, 139, 140, 141, 218, 219, 220, 143, 144, 333, 334, 335, 336, 337, 338, 339, 340, 17, 298, 258, 259, 260, 261, 18, 262, 205, 206, 263, 264, 265, 299, 300, 301, 302, 22, 21, 20, 303, 304, 305, 306, 307, 308, 33, 309, 310, 311, 312, 313, 314, 823, 824, 825, 826, 735, 736, 737, 738, 739, 740, 741, 742, 743, 744, 745, 746, 747, 748, 749, 794, 795, 796, 797, 798, 799, 800, 801, 802, 803, 804, 805, 806, 807, 808, 809, 810, 811, 812, 813, 814, 815, 816, 817, 818, 819, 820, 821, 822, 827, 828, 829] (by decide +kernel) (by decide +kernel)
set_option maxRecDepth 20000 in
theorem gL_law_X8_findMethod : GoodIn wsL_law (wsV RL 43 RX8 yX8_findMethod wsX8_findMethod) := goodIn_app (goodIn_of _ (by decide +kernel)) ggL_law_X8_findMethod
set_option maxRecDepth 20000 in
theorem ggL_law_X9_findMethod : GoodIn wsL_law wsX9_findMethod := goodIn_r _ [344, 114, 180, 270, 65, 63, 116, 117, 118, 5, 119, 61, 120, 121, 122, 183, 184, 185, 186, 345, 346, 347, 348, 182, 72, 80, 277, 278, 279, 280, 73, 74, 76, 77, 319, 320, 321, 322, 323, 84, 85, 324, 325, 326, 327, 328, 750, 751, 752, 753, 754, 755, 756, 757, 758, 759, 760, 761, 762, 763, 764, 765, 766, 767, 768, 769, 770, 771, 772, 773, 774, 775, 776, 777, 778, 779, 780, 781, 782, 783, 784, 785, 786, 787, 788, 789, 790, 791] (by decide +kernel) (by decide +kernel)
set_option maxRecDepth 20000 in
theorem gL_law_X9_findMethod : GoodIn wsL_law (wsV RL 47 RX9 yX9_findMethod wsX9_findMethod) := goodIn_app (goodIn_of _ (by decide +kernel)) ggL_law_X9_findMethod
set_option maxRecDepth 20000 in
theorem ggL_law_X8_leave : GoodIn wsL_law wsX8_leave := goodIn_r _ [352, 21, 175, 29, 353, 354, 355, 2, 356, 22, 305, 306, 307, 308, 33, 735, 736, 737, 738, 739, 740, 741, 742, 743, 744, 745, 746, 747, 748, 749, 827, 828, 829, 806, 807, 808, 809, 810, 811, 812, 813, 814, 815, 816, 817, 818, 819, 820, 821, 822, 794, 795, 796, 797, 798, 799, 800, 801, 802, 803, 804, 805] (by decide +kernel) (by decide +kernel)
set_option maxRecDepth 20000 in
theorem gL_law_X8_leave : GoodIn wsL_law (wsV RL 48 RX8 yX8_leave wsX8_leave) := goodIn_app (goodIn_of _ (by decide +kernel)) ggL_law_X8_leave
set_option maxRecDepth 20000 in
theorem ggL_law_X9_leave : GoodIn wsL_law wsX9_leave := goodIn_r _ [360, 114, 72, 84, 67, 289, 85, 361, 362, 363, 5, 364, 323, 120, 121, 122, 324, 325, 326, 327, 328, 750, 751, 752, 753, 754, 755, 756, 757, 758, 759, 760, 761, 762, 763, 764, 765, 766, 767, 768, 769, 770, 771, 772, 773, 774, 775, 776, 777, 778, 779, 780, 781, 782, 783, 784, 785, 786, 787, 788, 789, 790, 791] (by decide +kernel) (by decide +kernel)
set_option maxRecDepth 20000 in
theorem gL_law_X9_leave : GoodIn wsL_law (wsV RL 51 RX9 yX9_leave wsX9_leave) := goodIn_app (goodIn_of _ (by decide +kernel)) ggL_law_X9_leave
set_option maxRecDepth 20000 in
theorem ggL_law_X8_value : GoodIn wsL_law wsX8_value := goodIn_r _ [368, 25, 28, 369, 370, 27, 371, 31, 372, 373, 40, 41, 735, 736, 737, 738, 739, 740, 741, 742, 743, 744, 745, 746, 747, 748, 749, 792, 793] (by decide +kernel) (by decide +kernel)
set_option maxRecDepth 20000 in
theorem gL_law_X8_value : GoodIn wsL_law (wsV RL 54 RX8 yX8_value wsX8_value) := goodIn_app (goodIn_of _ (by decide +kernel)) ggL_law_X8_value
set_option maxRecDepth 20000 in
theorem ggL_law_X9_value : GoodIn wsL_law wsX9_value := goodIn_r _ [377, 114, 378, 270, 379, 93, 94, 380, 381, 382, 5, 383, 181, 120, 121, 122, 750, 751, 752, 753, 754, 755, 756, 757, 758, 759, 760, 761, 762, 763, 764, 765, 766, 767, 768, 769, 770, 771, 772, 773, 774, 775, 776, 777, 778, 779, 780, 781, 782, 783, 784, 785, 786, 787, 788, 789, 790, 791] (by decide +kernel) (by decide +kernel)
set_option maxRecDepth 20000 in
theorem gL_law_X9_value : GoodIn wsL_law (wsV RL 58 RX9 yX9_value wsX9_value) := goodIn_app (goodIn_of _ (by decide +kernel)) ggL_law_X9_value
