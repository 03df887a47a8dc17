set_option maxRecDepth 20000 in
theorem ggL_law_X8_constant : GoodIn wsL_law wsX8_constant := goodIn_r _ [666, 14, 100, 101, 102, 2, 103, 15, 409, 410, 411, 412, 413, 36, 414, 415, 55, 49, 416, 417, 418, 419, 25, 420, 421, 422, 423, 24, 23, 424, 425, 426, 427, 428, 429, 19, 91, 18, 17, 152, 256, 257, 430, 431, 432, 11, 12, 433, 434, 435, 436, 437, 305, 306, 307, 308, 33, 735, 736, 737, 738, 739, 740, 741, 742, 743, 744, 745, 746, 747, 748, 749, 794, 795, 796, 797, 798, 799, 800, 801, 802, 803, 804, 805, 830, 831, 832, 833, 834, 806, 807, 808, 809, 810, 811, 812, 813, 814, 815, 816, 817, 818, 819, 820, 821, 822] (by decide +kernel) (by decide +kernel)
set_option maxRecDepth 20000 in
theorem gL_law_X8_constant : GoodIn wsL_law (wsV RL 80 RX8 yX8_constant wsX8_constant) := goodIn_app (goodIn_of _ (by decide +kernel)) ggL_law_X8_constant
set_option maxRecDepth 20000 in
theorem ggL_law_X9_constant : GoodIn wsL_law wsX9_constant := goodIn_r _ [670, 114, 64, 70, 71, 116, 117, 118, 5, 119, 61, 120, 121, 122, 480, 481, 482, 483, 69, 95, 63, 68, 181, 484, 485, 486, 487, 86, 87, 89, 182, 73, 191, 192, 193, 194, 90, 75, 92, 324, 325, 326, 327, 328, 750, 751, 752, 753, 754, 755, 756, 757, 758, 759, 760, 761, 762, 763, 764, 765, 766, 767, 768, 769, 770, 771, 772, 773, 774, 775, 776, 777, 778, 779, 780, 781, 782, 783, 784, 785, 786, 787, 788, 789, 790, 791] (by decide +kernel) (by decide +kernel)
set_option maxRecDepth 20000 in
theorem gL_law_X9_constant : GoodIn wsL_law (wsV RL 83 RX9 yX9_constant wsX9_constant) := goodIn_app (goodIn_of _ (by decide +kernel)) ggL_law_X9_constant
set_option maxRecDepth 20000 in
theorem ggL_law_X8_start : GoodIn wsL_law wsX8_start := goodIn_r _ [674, 14, 100, 101, 102, 2, 103, 15, 409, 410, 411, 412, 413, 36, 414, 415, 55, 49, 416, 417, 418, 419, 25, 420, 421, 422, 423, 24, 23, 424, 425, 426, 427, 428, 429, 19, 91, 18, 17, 152, 256, 257, 430, 431, 432, 11, 12, 433, 434, 435, 436, 437, 305, 306, 307, 308, 33, 735, 736, 737, 738, 739, 740, 741, 742, 743, 744, 745, 746, 747, 748, 749, 794, 795, 796, 797, 798, 799, 800, 801, 802, 803, 804, 805, 830, 831, 832, 833, 834, 806, 807, 808, 809, 810, 811, 812, 813, 814, 815, 816, 817, 818, 819, 820, 821, 822] (by decide +kernel) (by decide +kernel)
set_option maxRecDepth 20000 in
theorem gL_law_X8_start : GoodIn wsL_law (wsV RL 84 RX8 yX8_start wsX8_start) := goodIn_app (goodIn_of _ (by decide +kernel)) ggL_law_X8_start
set_option maxRecDepth 20000 in
theorem ggL_law_X9_start : GoodIn wsL_law wsX9_start := goodIn_r _ [678, 114, 116, 117, 118, 5, 119, 61, 120, 121, 122, 480, 481, 482, 483, 69, 95, 63, 68, 70, 71, 181, 484, 485, 486, 487, 86, 87, 89, 182, 73, 191, 192, 193, 194, 90, 75, 92, 324, 325, 326, 327, 328, 750, 751, 752, 753, 754, 755, 756, 757, 758, 759, 760, 761, 762, 763, 764, 765, 766, 767, 768, 769, 770, 771, 772, 773, 774, 775, 776, 777, 778, 779, 780, 781, 782, 783, 784, 785, 786, 787, 788, 789, 790, 791] (by decide +kernel) (by decide +kernel)
set_option maxRecDepth 20000 in
theorem gL_law_X9_start : GoodIn wsL_law (wsV RL 87 RX9 yX9_start wsX9_start) := goodIn_app (goodIn_of _ (by decide +kernel)) ggL_law_X9_start
set_option maxRecDepth 20000 in
theorem ggL_law_X8_resultKind : GoodIn wsL_law wsX8_resultKind := goodIn_r _ [682, 32, 735, 736, 737, 738, 739, 740, 741, 742, 743, 744, 745, 746, 747, 748, 749, 792, 793] (by decide +kernel) (by decide +kernel)
set_option maxRecDepth 20000 in
theorem gL_law_X8_resultKind : GoodIn wsL_law (wsV RL 88 RX8 yX8_resultKind wsX8_resultKind) := goodIn_app (goodIn_of _ (by decide +kernel)) ggL_law_X8_resultKind
set_option maxRecDepth 20000 in
theorem ggL_law_X9_resultKind : GoodIn wsL_law wsX9_resultKind := goodIn_r _ [686, 114, 466, 750, 751, 752, 753, 754, 755, 756, 757, 758, 759, 760, 761, 762, 763, 764, 765, 766, 767, 768, 769, 770, 771, 772, 773, 774, 775, 776, 777, 778, 779, 780, 781, 782, 783, 784, 785, 786, 787, 788, 789, 790, 791] (by decide +kernel) (by decide +kernel)
set_option maxRecDepth 20000 in
theorem gL_law_X9_resultKind : GoodIn wsL_law (wsV RL 92 RX9 yX9_resultKind wsX9_resultKind) := goodIn_app (goodIn_of _ (by decide +kernel)) ggL_law_X9_resultKind
set_option maxRecDepth 20000 in
theorem ggL_law_X8_result : GoodIn wsL_law wsX8_result := goodIn_r _ [690, 32, 735, 736, 737, 738, 739, 740, 741, 742, 743, 744, 745, 746, 747, 748, 749, 792, 793] (by decide +kernel) (by decide +kernel)
set_option maxRecDepth 20000 in
theorem gL_law_X8_result : GoodIn wsL_law (wsV RL 93 RX8 yX8_result wsX8_result) := goodIn_app (goodIn_of _ (by decide +kernel)) ggL_law_X8_result
set_option maxRecDepth 20000 in
theorem ggL_law_X9_result : GoodIn wsL_law wsX9_result := goodIn_r _ [694, 114, 467, 750, 751, 752, 753, 754, 755, 756, 757, 758, 759, 760, 761, 762, 763, 764, 765, 766, 767, 768, 769, 770, 771, 772, 773, 774, 775, 776, 777, 778, 779, 780, 781, 782, 783, 784, 785, 786, 787, 788, 789, 790, 791] (by decide +kernel) (by decide +kernel)
set_option maxRecDepth 20000 in
theorem gL_law_X9_result : GoodIn wsL_law (wsV RL 97 RX9 yX9_result wsX9_result) := goodIn_app (goodIn_of _ (by decide +kernel)) ggL_law_X9_result
set_option maxRecDepth 20000 in
theorem ggL_law_X8_cause : GoodIn wsL_law wsX8_cause := goodIn_r _ [698, 34, 735, 736, 737, 738, 739, 740, 741, 742, 743, 744, 745, 746, 747, 748, 749] (by decide +kernel) (by decide +kernel)
set_option maxRecDepth 20000 in
theorem gL_law_X8_cause : GoodIn wsL_law (wsV RL 98 RX8 yX8_cause wsX8_cause) := goodIn_app (goodIn_of _ (by decide +kernel)) ggL_law_X8_cause
set_option maxRecDepth 20000 in
theorem ggL_law_X9_cause : GoodIn wsL_law wsX9_cause := goodIn_r _ [702, 114, 626, 750, 751, 752, 753, 754, 755, 756, 757, 758, 759, 760, 761, 762, 763, 764, 765, 766, 767, 768, 769, 770, 771, 772, 773, 774, 775, 776, 777, 778, 779, 780, 781, 782, 783, 784, 785, 786, 787, 788, 789, 790, 791] (by decide +kernel) (by decide +kernel)
set_option maxRecDepth 20000 in
theorem gL_law_X9_cause : GoodIn wsL_law (wsV RL 101 RX9 yX9_cause wsX9_cause) := goodIn_app (goodIn_of _ (by decide +kernel)) ggL_law_X9_cause
