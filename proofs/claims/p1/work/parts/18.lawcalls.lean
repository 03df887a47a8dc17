set_option maxRecDepth 20000 in
theorem ggL_law_X8_init : GoodIn wsL_law wsX8_init := goodIn_r _ [9, 10, 11, 12, 13, 14, 15, 16, 17, 18, 19, 20, 21, 22, 23, 24, 25, 26, 27, 28, 29, 30, 31, 32, 33, 34, 35, 36, 37, 38, 39, 40, 41, 42, 43, 44, 45, 46, 47, 48, 49, 50, 51, 52, 53, 54, 55, 56, 735, 736, 737, 738, 739, 740, 741, 742, 743, 744, 745, 746, 747, 748, 749, 792, 793, 794, 795, 796, 797, 798, 799, 800, 801, 802, 803, 804, 805] (by decide +kernel) (by decide +kernel)
set_option maxRecDepth 20000 in
theorem gL_law_X8_init : GoodIn wsL_law (wsX8_init) := ggL_law_X8_init
set_option maxRecDepth 20000 in
theorem ggL_law_X9_init : GoodIn wsL_law wsX9_init := goodIn_r _ [59, 60, 11, 12, 61, 62, 63, 64, 65, 66, 67, 68, 69, 70, 71, 72, 73, 74, 75, 76, 77, 78, 79, 80, 81, 82, 83, 84, 85, 86, 87, 88, 89, 90, 91, 92, 93, 94, 95, 750, 751, 752, 753, 754, 755, 756, 757, 758, 759, 760, 761, 762, 763, 764, 765, 766, 767, 768, 769, 770, 771, 772, 773, 774, 775, 776, 777, 778, 779, 780, 781, 782, 783, 784, 785, 786, 787, 788, 789, 790, 791] (by decide +kernel) (by decide +kernel)
set_option maxRecDepth 20000 in
theorem gL_law_X9_init : GoodIn wsL_law (wsX9_init) := ggL_law_X9_init
set_option maxRecDepth 20000 in
theorem ggL_law_X8_type : GoodIn wsL_law wsX8_type := goodIn_r _ [99, 14, 15, 13, 35, 36, 100, 101, 102, 2, 103, 104, 105, 106, 107, 108, 109, 42, 43, 44, 11, 12, 45, 46, 47, 48, 49, 50, 51, 52, 53, 54, 55, 56, 735, 736, 737, 738, 739, 740, 741, 742, 743, 744, 745, 746, 747, 748, 749, 794, 795, 796, 797, 798, 799, 800, 801, 802, 803, 804, 805] (by decide +kernel) (by decide +kernel)
set_option maxRecDepth 20000 in
theorem gL_law_X8_type : GoodIn wsL_law (wsV RL 13 RX8 yX8_type wsX8_type) := goodIn_app (goodIn_of _ (by decide +kernel)) ggL_law_X8_type
set_option maxRecDepth 20000 in
theorem ggL_law_X9_type : GoodIn wsL_law wsX9_type := goodIn_r _ [113, 114, 115, 64, 61, 63, 65, 67, 68, 116, 117, 118, 5, 119, 120, 121, 122, 750, 751, 752, 753, 754, 755, 756, 757, 758, 759, 760, 761, 762, 763, 764, 765, 766, 767, 768, 769, 770, 771, 772, 773, 774, 775, 776, 777, 778, 779, 780, 781, 782, 783, 784, 785, 786, 787, 788, 789, 790, 791] (by decide +kernel) (by decide +kernel)
set_option maxRecDepth 20000 in
theorem gL_law_X9_type : GoodIn wsL_law (wsV RL 17 RX9 yX9_type wsX9_type) := goodIn_app (goodIn_of _ (by decide +kernel)) ggL_law_X9_type
set_option maxRecDepth 20000 in
theorem ggL_law_X8_constants : GoodIn wsL_law wsX8_constants := goodIn_r _ [126, 14, 100, 101, 102, 2, 103, 15, 735, 736, 737, 738, 739, 740, 741, 742, 743, 744, 745, 746, 747, 748, 749, 794, 795, 796, 797, 798, 799, 800, 801, 802, 803, 804, 805] (by decide +kernel) (by decide +kernel)
set_option maxRecDepth 20000 in
theorem gL_law_X8_constants : GoodIn wsL_law (wsV RL 18 RX8 yX8_constants wsX8_constants) := goodIn_app (goodIn_of _ (by decide +kernel)) ggL_law_X8_constants
set_option maxRecDepth 20000 in
theorem ggL_law_X9_constants : GoodIn wsL_law wsX9_constants := goodIn_r _ [130, 114, 115, 64, 70, 69, 116, 117, 118, 5, 119, 61, 120, 121, 122, 750, 751, 752, 753, 754, 755, 756, 757, 758, 759, 760, 761, 762, 763, 764, 765, 766, 767, 768, 769, 770, 771, 772, 773, 774, 775, 776, 777, 778, 779, 780, 781, 782, 783, 784, 785, 786, 787, 788, 789, 790, 791] (by decide +kernel) (by decide +kernel)
set_option maxRecDepth 20000 in
theorem gL_law_X9_constants : GoodIn wsL_law (wsV RL 22 RX9 yX9_constants wsX9_constants) := goodIn_app (goodIn_of _ (by decide +kernel)) ggL_law_X9_constants
set_option maxRecDepth 20000 in
theorem ggL_law_X8_field : GoodIn wsL_law wsX8_field := goodIn_r _ [134, 14, 25, 18, 19, 135, 136, 137, 100, 101, 102, 2, 103, 15, 138, 139, 140, 141, 142, 143, 144, 145, 146, 147, 148, 149, 150, 151, 17, 152, 153, 154, 155, 156, 157, 158, 159, 160, 161, 162, 163, 164, 165, 166, 167, 11, 12, 168, 169, 170, 171, 172, 173, 174, 175, 735, 736, 737, 738, 739, 740, 741, 742, 743, 744, 745, 746, 747, 748, 749, 806, 807, 808, 809, 810, 811, 812, 813, 814, 794, 795, 796, 797, 798, 799, 800, 801, 802, 803, 804, 805, 815, 816, 817, 818, 819, 820, 821, 822] (by decide +kernel) (by decide +kernel)
set_option maxRecDepth 20000 in
theorem gL_law_X8_field : GoodIn wsL_law (wsV RL 23 RX8 yX8_field wsX8_field) := goodIn_app (goodIn_of _ (by decide +kernel)) ggL_law_X8_field
set_option maxRecDepth 20000 in
theorem ggL_law_X9_field : GoodIn wsL_law wsX9_field := goodIn_r _ [179, 114, 180, 64, 181, 182, 72, 73, 74, 75, 78, 79, 80, 116, 117, 118, 5, 119, 61, 120, 121, 122, 183, 184, 185, 186, 187, 188, 189, 190, 191, 192, 193, 194, 90, 92, 750, 751, 752, 753, 754, 755, 756, 757, 758, 759, 760, 761, 762, 763, 764, 765, 766, 767, 768, 769, 770, 771, 772, 773, 774, 775, 776, 777, 778, 779, 780, 781, 782, 783, 784, 785, 786, 787, 788, 789, 790, 791] (by decide +kernel) (by decide +kernel)
set_option maxRecDepth 20000 in
theorem gL_law_X9_field : GoodIn wsL_law (wsV RL 27 RX9 yX9_field wsX9_field) := goodIn_app (goodIn_of _ (by decide +kernel)) ggL_law_X9_field
set_option maxRecDepth 20000 in
theorem ggL_law_X8_method : GoodIn wsL_law wsX8_method := goodIn_r _ [198, 199, 200, 201, 202, 203, 204, 14, 25, 205, 206, 18, 207, 208, 209, 11, 12, 210, 211, 212, 213, 100, 101, 102, 2, 103, 15, 214, 215, 216, 217, 138, 139, 140, 141, 218, 219, 220, 143, 144, 221, 222, 223, 224, 225, 226, 227, 228, 229, 230, 231, 232, 233, 234, 235, 236, 164, 165, 166, 167, 168, 169, 170, 237, 238, 239, 240, 241, 242, 243, 244, 245, 246, 247, 248, 249, 250, 251, 252, 253, 254, 255, 17, 152, 256, 257, 258, 259, 260, 261, 262, 263, 264, 265, 171, 172, 173, 174, 175, 823, 824, 825, 826, 815, 816, 817, 818, 819, 820, 821, 822, 735, 736, 737, 738, 739, 740, 741, 742, 743, 744, 745, 746, 747, 748, 749, 806, 807, 808, 809, 810, 811, 812, 813, 814, 794, 795, 796, 797, 798, 799, 800, 801, 802, 803, 804, 805] (by decide +kernel) (by decide +kernel)
set_option maxRecDepth 20000 in
theorem gL_law_X8_method : GoodIn wsL_law (wsV RL 28 RX8 yX8_method wsX8_method) := goodIn_app (goodIn_of _ (by decide +kernel)) ggL_law_X8_method
set_option maxRecDepth 20000 in
theorem ggL_law_X9_method : GoodIn wsL_law wsX9_method := goodIn_r _ [269, 114, 180, 270, 271, 272, 64, 182, 72, 181, 73, 74, 76, 77, 75, 78, 81, 80, 82, 83, 116, 117, 118, 5, 119, 61, 120, 121, 122, 183, 184, 185, 186, 273, 274, 275, 276, 277, 278, 279, 280, 750, 751, 752, 753, 754, 755, 756, 757, 758, 759, 760, 761, 762, 763, 764, 765, 766, 767, 768, 769, 770, 771, 772, 773, 774, 775, 776, 777, 778, 779, 780, 781, 782, 783, 784, 785, 786, 787, 788, 789, 790, 791] (by decide +kernel) (by decide +kernel)
set_option maxRecDepth 20000 in
theorem gL_law_X9_method : GoodIn wsL_law (wsV RL 32 RX9 yX9_method wsX9_method) := goodIn_app (goodIn_of _ (by decide +kernel)) ggL_law_X9_method
set_option maxRecDepth 20000 in
theorem ggL_law_X8_caller : GoodIn wsL_law wsX8_caller := goodIn_r _ [284, 29, 100, 101, 102, 2, 103, 15, 735, 736, 737, 738, 739, 740, 741, 742, 743, 744, 745, 746, 747, 748, 749] (by decide +kernel) (by decide +kernel)
set_option maxRecDepth 20000 in
theorem gL_law_X8_caller : GoodIn wsL_law (wsV RL 33 RX8 yX8_caller wsX8_caller) := goodIn_app (goodIn_of _ (by decide +kernel)) ggL_law_X8_caller
set_option maxRecDepth 20000 in
theorem ggL_law_X9_caller : GoodIn wsL_law wsX9_caller := goodIn_r _ [288, 114, 289, 116, 117, 118, 5, 119, 61, 120, 121, 122, 750, 751, 752, 753, 754, 755, 756, 757, 758, 759, 760, 761, 762, 763, 764, 765, 766, 767, 768, 769, 770, 771, 772, 773, 774, 775, 776, 777, 778, 779, 780, 781, 782, 783, 784, 785, 786, 787, 788, 789, 790, 791] (by decide +kernel) (by decide +kernel)
set_option maxRecDepth 20000 in
theorem gL_law_X9_caller : GoodIn wsL_law (wsV RL 37 RX9 yX9_caller wsX9_caller) := goodIn_app (goodIn_of _ (by decide +kernel)) ggL_law_X9_caller
set_option maxRecDepth 20000 in
theorem ggL_law_X8_findField : GoodIn wsL_law wsX8_findField := goodIn_r _ [293, 14, 100, 101, 102, 2, 103, 15, 142, 143, 144, 294, 295, 296, 297, 17, 298, 148, 149, 150, 151, 18, 152, 153, 154, 299, 300, 301, 302, 22, 21, 20, 303, 304, 305, 306, 307, 308, 33, 309, 310, 311, 11, 12, 312, 313, 314, 735, 736, 737, 738, 739, 740, 741, 742, 743, 744, 745, 746, 747, 748, 749, 806, 807, 808, 809, 810, 811, 812, 813, 814, 815, 816, 817, 818, 819, 820, 821, 822, 794, 795, 796, 797, 798, 799, 800, 801, 802, 803, 804, 805, 827, 828, 829] (by decide +kernel) (by decide +kernel)
set_option maxRecDepth 20000 in
theorem gL_law_X8_findField : GoodIn wsL_law (wsV RL 38 RX8 yX8_findField wsX8_findField) := goodIn_app (goodIn_of _ (by decide +kernel)) ggL_law_X8_findField
set_option maxRecDepth 20000 in
theorem ggL_law_X9_findField : GoodIn wsL_law wsX9_findField := goodIn_r _ [318, 114, 180, 182, 72, 73, 74, 80, 63, 116, 117, 118, 5, 119, 61, 120, 121, 122, 319, 320, 321, 322, 323, 84, 85, 324, 325, 326, 327, 328, 750, 751, 752, 753, 754, 755, 756, 757, 758, 759, 760, 761, 762, 763, 764, 765, 766, 767, 768, 769, 770, 771, 772, 773, 774, 775, 776, 777, 778, 779, 780, 781, 782, 783, 784, 785, 786, 787, 788, 789, 790, 791] (by decide +kernel) (by decide +kernel)
set_option maxRecDepth 20000 in
theorem gL_law_X9_findField : GoodIn wsL_law (wsV RL 42 RX9 yX9_findField wsX9_findField) := goodIn_app (goodIn_of _ (by decide +kernel)) ggL_law_X9_findField
set_option maxRecDepth 20000 in
theorem ggL_law_X8_findMethod : GoodIn wsL_law wsX8_findMethod := goodIn_r _ [332, 199, 200, 201, 14, 207, 208, 209, 11, 12, 210, 211, 212, 213, 100, 101, 102, 2, 103, 15, 214, 215, 216, 217, 138, 139, 140, 141, 218, 219, 220, 143, 144, 333, 334, 335, 336, 337, 338, 339, 340, 17, 298, 258, 259, 260, 261, 18, 262, 205, 206, 263, 264, 265, 299, 300, 301, 302, 22, 21, 20, 303, 304, 305, 306, 307, 308, 33, 309, 310, 311, 312, 313, 314, 823, 824, 825, 826, 735, 736, 737, 738, 739, 740, 741, 742, 743, 744, 745, 746, 747, 748, 749, 794, 795, 796, 797, 798, 799, 800, 801, 802, 803, 804, 805, 806, 807, 808, 809, 810, 811, 812, 813, 814, 815, 816, 817, 818, 819, 820, 821, 822, 827, 828, 829] (by decide +kernel) (by decide +kernel)
set_option maxRecDepth 20000 in
theorem gL_law_X8_findMethod : GoodIn wsL_law (wsV RL 43 RX8 yX8_findMethod wsX8_findMethod) := goodIn_app (goodIn_of _ (by decide +kernel)) ggL_law_X8_findMethod
set_option maxRecDepth 20000 in
theorem ggL_law_X9_findMethod : GoodIn wsL_law wsX9_findMethod := goodIn_r _ [344, 114, 180, 270, 65, 63, 116, 117, 118, 5, 119, 61, 120, 121, 122, 183, 184, 185, 186, 345, 346, 347, 348, 182, 72, 80, 277, 278, 279, 280, 73, 74, 76, 77, 319, 320, 321, 322, 323, 84, 85, 324, 325, 326, 327, 328, 750, 751, 752, 753, 754, 755, 756, 757, 758, 759, 760, 761, 762, 763, 764, 765, 766, 767, 768, 769, 770, 771, 772, 773, 774, 775, 776, 777, 778, 779, 780, 781, 782, 783, 784, 785, 786, 787, 788, 789, 790, 791] (by decide +kernel) (by decide +kernel)
set_option maxRecDepth 20000 in
theorem gL_law_X9_findMethod : GoodIn wsL_law (wsV RL 47 RX9 yX9_findMethod wsX9_findMethod) := goodIn_app (goodIn_of _ (by decide +kernel)) ggL_law_X9_findMethod
set_option maxRecDepth 20000 in
theorem ggL_law_X8_leave : GoodIn wsL_law wsX8_leave := goodIn_r _ [352, 21, 175, 29, 353, 354, 355, 2, 356, 22, 305, 306, 307, 308, 33, 735, 736, 737, 738, 739, 740, 741, 742, 743, 744, 745, 746, 747, 748, 749, 827, 828, 829, 806, 807, 808, 809, 810, 811, 812, 813, 814, 815, 816, 817, 818, 819, 820, 821, 822, 794, 795, 796, 797, 798, 799, 800, 801, 802, 803, 804, 805] (by decide +kernel) (by decide +kernel)
set_option maxRecDepth 20000 in
theorem gL_law_X8_leave : GoodIn wsL_law (wsV RL 48 RX8 yX8_leave wsX8_leave) := goodIn_app (goodIn_of _ (by decide +kernel)) ggL_law_X8_leave
set_option maxRecDepth 20000 in
theorem ggL_law_X9_leave : GoodIn wsL_law wsX9_leave := goodIn_r _ [360, 114, 72, 84, 67, 289, 85, 361, 362, 363, 5, 364, 323, 120, 121, 122, 324, 325, 326, 327, 328, 750, 751, 752, 753, 754, 755, 756, 757, 758, 759, 760, 761, 762, 763, 764, 765, 766, 767, 768, 769, 770, 771, 772, 773, 774, 775, 776, 777, 778, 779, 780, 781, 782, 783, 784, 785, 786, 787, 788, 789, 790, 791] (by decide +kernel) (by decide +kernel)
set_option maxRecDepth 20000 in
theorem gL_law_X9_leave : GoodIn wsL_law (wsV RL 51 RX9 yX9_leave wsX9_leave) := goodIn_app (goodIn_of _ (by decide +kernel)) ggL_law_X9_leave
set_option maxRecDepth 20000 in
theorem ggL_law_X8_value : GoodIn wsL_law wsX8_value := goodIn_r _ [368, 25, 28, 369, 370, 27, 371, 31, 372, 373, 40, 41, 735, 736, 737, 738, 739, 740, 741, 742, 743, 744, 745, 746, 747, 748, 749, 792, 793] (by decide +kernel) (by decide +kernel)
set_option maxRecDepth 20000 in
theorem gL_law_X8_value : GoodIn wsL_law (wsV RL 54 RX8 yX8_value wsX8_value) := goodIn_app (goodIn_of _ (by decide +kernel)) ggL_law_X8_value
set_option maxRecDepth 20000 in
theorem ggL_law_X9_value : GoodIn wsL_law wsX9_value := goodIn_r _ [377, 114, 378, 270, 379, 93, 94, 380, 381, 382, 5, 383, 181, 120, 121, 122, 750, 751, 752, 753, 754, 755, 756, 757, 758, 759, 760, 761, 762, 763, 764, 765, 766, 767, 768, 769, 770, 771, 772, 773, 774, 775, 776, 777, 778, 779, 780, 781, 782, 783, 784, 785, 786, 787, 788, 789, 790, 791] (by decide +kernel) (by decide +kernel)
set_option maxRecDepth 20000 in
theorem gL_law_X9_value : GoodIn wsL_law (wsV RL 58 RX9 yX9_value wsX9_value) := goodIn_app (goodIn_of _ (by decide +kernel)) ggL_law_X9_value
set_option maxRecDepth 20000 in
theorem ggL_law_X8_get : GoodIn wsL_law wsX8_get := goodIn_r _ [387, 21, 152, 32, 353, 354, 355, 2, 356, 22, 388, 389, 390, 391, 392, 393, 394, 395, 25, 371, 31, 372, 373, 40, 41, 396, 397, 398, 399, 400, 401, 402, 403, 298, 175, 29, 404, 405, 406, 407, 408, 409, 410, 411, 412, 15, 14, 413, 36, 414, 415, 55, 49, 416, 417, 418, 419, 420, 421, 422, 423, 24, 23, 424, 425, 426, 427, 428, 429, 19, 91, 18, 17, 256, 257, 430, 431, 432, 11, 12, 433, 434, 435, 436, 437, 438, 439, 440, 441, 442, 443, 444, 305, 306, 307, 308, 33, 445, 446, 447, 448, 449, 450, 451, 452, 453, 454, 455, 456, 457, 458, 459, 460, 735, 736, 737, 738, 739, 740, 741, 742, 743, 744, 745, 746, 747, 748, 749, 827, 828, 829, 806, 807, 808, 809, 810, 811, 812, 813, 814, 792, 793, 815, 816, 817, 818, 819, 820, 821, 822, 794, 795, 796, 797, 798, 799, 800, 801, 802, 803, 804, 805, 830, 831, 832, 833, 834] (by decide +kernel) (by decide +kernel)
set_option maxRecDepth 20000 in
theorem gL_law_X8_get : GoodIn wsL_law (wsV RL 59 RX8 yX8_get wsX8_get) := goodIn_app (goodIn_of _ (by decide +kernel)) ggL_law_X8_get
set_option maxRecDepth 20000 in
theorem ggL_law_X9_get : GoodIn wsL_law wsX9_get := goodIn_r _ [464, 114, 465, 84, 73, 75, 78, 72, 90, 466, 92, 467, 361, 362, 363, 5, 364, 323, 120, 121, 122, 468, 469, 470, 471, 380, 381, 382, 383, 181, 472, 473, 474, 475, 476, 477, 478, 479, 80, 289, 85, 480, 481, 482, 483, 69, 95, 63, 68, 70, 71, 484, 485, 486, 487, 86, 87, 89, 182, 191, 192, 193, 194, 488, 489, 490, 491, 492, 493, 494, 495, 65, 496, 497, 498, 499, 324, 325, 326, 327, 328, 750, 751, 752, 753, 754, 755, 756, 757, 758, 759, 760, 761, 762, 763, 764, 765, 766, 767, 768, 769, 770, 771, 772, 773, 774, 775, 776, 777, 778, 779, 780, 781, 782, 783, 784, 785, 786, 787, 788, 789, 790, 791] (by decide +kernel) (by decide +kernel)
set_option maxRecDepth 20000 in
theorem gL_law_X9_get : GoodIn wsL_law (wsV RL 63 RX9 yX9_get wsX9_get) := goodIn_app (goodIn_of _ (by decide +kernel)) ggL_law_X9_get
set_option maxRecDepth 20000 in
theorem ggL_law_X8_set : GoodIn wsL_law wsX8_set := goodIn_r _ [503, 28, 21, 152, 27, 353, 354, 355, 2, 356, 22, 388, 389, 390, 391, 392, 393, 394, 395, 25, 504, 505, 506, 507, 256, 257, 153, 154, 400, 401, 402, 403, 298, 175, 29, 404, 405, 406, 407, 408, 409, 410, 411, 412, 15, 14, 413, 36, 414, 415, 55, 49, 416, 417, 418, 419, 420, 421, 422, 423, 24, 23, 424, 425, 426, 427, 428, 429, 19, 91, 18, 17, 430, 431, 432, 11, 12, 433, 434, 435, 436, 437, 438, 439, 440, 441, 442, 443, 444, 508, 509, 510, 511, 512, 513, 514, 515, 100, 101, 102, 103, 305, 306, 307, 308, 33, 516, 31, 517, 518, 40, 456, 41, 519, 520, 521, 522, 449, 450, 451, 452, 735, 736, 737, 738, 739, 740, 741, 742, 743, 744, 745, 746, 747, 748, 749, 827, 828, 829, 806, 807, 808, 809, 810, 811, 812, 813, 814, 815, 816, 817, 818, 819, 820, 821, 822, 794, 795, 796, 797, 798, 799, 800, 801, 802, 803, 804, 805, 830, 831, 832, 833, 834, 792, 793] (by decide +kernel) (by decide +kernel)
set_option maxRecDepth 20000 in
theorem gL_law_X8_set : GoodIn wsL_law (wsV RL 64 RX8 yX8_set wsX8_set) := goodIn_app (goodIn_of _ (by decide +kernel)) ggL_law_X8_set
set_option maxRecDepth 20000 in
theorem ggL_law_X9_set : GoodIn wsL_law wsX9_set := goodIn_r _ [526, 114, 84, 73, 378, 78, 72, 79, 64, 85, 93, 94, 75, 361, 362, 363, 5, 364, 323, 120, 121, 122, 468, 469, 470, 471, 380, 381, 382, 383, 181, 476, 477, 478, 479, 80, 289, 480, 481, 482, 483, 69, 95, 63, 68, 70, 71, 484, 485, 486, 487, 86, 87, 89, 182, 191, 192, 193, 194, 90, 92, 488, 489, 490, 491, 492, 493, 494, 495, 65, 496, 497, 498, 499, 527, 528, 529, 530, 324, 325, 326, 327, 328, 531, 532, 533, 534, 750, 751, 752, 753, 754, 755, 756, 757, 758, 759, 760, 761, 762, 763, 764, 765, 766, 767, 768, 769, 770, 771, 772, 773, 774, 775, 776, 777, 778, 779, 780, 781, 782, 783, 784, 785, 786, 787, 788, 789, 790, 791] (by decide +kernel) (by decide +kernel)
set_option maxRecDepth 20000 in
theorem gL_law_X9_set : GoodIn wsL_law (wsV RL 67 RX9 yX9_set wsX9_set) := goodIn_app (goodIn_of _ (by decide +kernel)) ggL_law_X9_set
set_option maxRecDepth 20000 in
theorem ggL_law_X8_call : GoodIn wsL_law wsX8_call := goodIn_r _ [538, 21, 262, 32, 34, 353, 354, 355, 2, 356, 22, 388, 389, 390, 391, 392, 393, 394, 395, 25, 371, 31, 372, 373, 40, 41, 539, 540, 541, 542, 240, 241, 205, 206, 400, 401, 402, 403, 298, 175, 29, 543, 544, 545, 546, 28, 27, 508, 509, 510, 511, 512, 513, 514, 515, 24, 14, 100, 101, 102, 103, 15, 442, 425, 443, 444, 437, 409, 410, 411, 412, 413, 36, 414, 415, 55, 49, 416, 417, 418, 419, 420, 421, 422, 423, 23, 424, 426, 427, 428, 429, 19, 91, 18, 17, 152, 256, 257, 430, 431, 432, 11, 12, 433, 434, 435, 436, 438, 439, 440, 441, 305, 306, 307, 308, 33, 547, 548, 549, 550, 551, 552, 553, 554, 555, 556, 557, 558, 559, 560, 561, 562, 458, 459, 460, 563, 564, 565, 566, 567, 568, 569, 570, 571, 572, 258, 259, 260, 261, 263, 201, 264, 265, 210, 211, 212, 213, 573, 204, 574, 575, 576, 577, 234, 578, 579, 580, 581, 582, 583, 584, 585, 586, 587, 588, 589, 590, 591, 592, 593, 153, 154, 252, 253, 254, 255, 445, 446, 447, 448, 449, 450, 451, 452, 453, 454, 455, 456, 457, 594, 595, 596, 597, 598, 599, 600, 601, 602, 603, 604, 605, 735, 736, 737, 738, 739, 740, 741, 742, 743, 744, 745, 746, 747, 748, 749, 827, 828, 829, 792, 793, 806, 807, 808, 809, 810, 811, 812, 813, 814, 815, 816, 817, 818, 819, 820, 821, 822, 794, 795, 796, 797, 798, 799, 800, 801, 802, 803, 804, 805, 823, 824, 825, 826, 830, 831, 832, 833, 834] (by decide +kernel) (by decide +kernel)
set_option maxRecDepth 20000 in
theorem gL_law_X8_call : GoodIn wsL_law (wsV RL 68 RX8 yX8_call wsX8_call) := goodIn_app (goodIn_of _ (by decide +kernel)) ggL_law_X8_call
set_option maxRecDepth 20000 in
theorem ggL_law_X9_call : GoodIn wsL_law wsX9_call := goodIn_r _ [609, 114, 84, 73, 78, 72, 80, 87, 64, 86, 182, 74, 76, 77, 81, 466, 467, 63, 361, 362, 363, 5, 364, 323, 120, 121, 122, 468, 469, 470, 471, 380, 381, 382, 383, 181, 472, 473, 474, 475, 476, 477, 478, 479, 289, 85, 610, 611, 612, 613, 378, 93, 94, 527, 528, 529, 530, 492, 493, 494, 495, 65, 496, 497, 498, 499, 480, 481, 482, 483, 69, 95, 68, 70, 71, 484, 485, 486, 487, 89, 191, 192, 193, 194, 90, 75, 92, 488, 489, 490, 491, 324, 325, 326, 327, 328, 614, 615, 616, 617, 83, 82, 270, 618, 619, 620, 621, 622, 623, 624, 625, 626, 627, 628, 629, 630, 88, 277, 278, 279, 280, 750, 751, 752, 753, 754, 755, 756, 757, 758, 759, 760, 761, 762, 763, 764, 765, 766, 767, 768, 769, 770, 771, 772, 773, 774, 775, 776, 777, 778, 779, 780, 781, 782, 783, 784, 785, 786, 787, 788, 789, 790, 791] (by decide +kernel) (by decide +kernel)
set_option maxRecDepth 20000 in
theorem gL_law_X9_call : GoodIn wsL_law (wsV RL 71 RX9 yX9_call wsX9_call) := goodIn_app (goodIn_of _ (by decide +kernel)) ggL_law_X9_call
set_option maxRecDepth 20000 in
theorem ggL_law_X8_make : GoodIn wsL_law wsX8_make := goodIn_r _ [634, 25, 14, 100, 101, 102, 2, 103, 15, 635, 636, 637, 638, 28, 639, 640, 641, 642, 18, 17, 152, 153, 154, 27, 508, 509, 510, 511, 512, 513, 514, 515, 24, 442, 425, 443, 444, 437, 409, 410, 411, 412, 413, 36, 414, 415, 55, 49, 416, 417, 418, 419, 420, 421, 422, 423, 23, 424, 426, 427, 428, 429, 19, 91, 256, 257, 430, 431, 432, 11, 12, 433, 434, 435, 436, 305, 306, 307, 308, 33, 643, 644, 645, 646, 516, 31, 517, 518, 40, 456, 41, 519, 520, 521, 522, 449, 450, 451, 452, 392, 393, 394, 395, 735, 736, 737, 738, 739, 740, 741, 742, 743, 744, 745, 746, 747, 748, 749, 794, 795, 796, 797, 798, 799, 800, 801, 802, 803, 804, 805, 806, 807, 808, 809, 810, 811, 812, 813, 814, 815, 816, 817, 818, 819, 820, 821, 822, 792, 793, 830, 831, 832, 833, 834] (by decide +kernel) (by decide +kernel)
set_option maxRecDepth 20000 in
theorem gL_law_X8_make : GoodIn wsL_law (wsV RL 72 RX8 yX8_make wsX8_make) := goodIn_app (goodIn_of _ (by decide +kernel)) ggL_law_X8_make
set_option maxRecDepth 20000 in
theorem ggL_law_X9_make : GoodIn wsL_law wsX9_make := goodIn_r _ [650, 114, 181, 64, 378, 182, 72, 73, 116, 117, 118, 5, 119, 61, 120, 121, 122, 651, 652, 653, 654, 93, 94, 75, 527, 528, 529, 530, 492, 493, 494, 495, 87, 86, 65, 63, 496, 497, 498, 499, 480, 481, 482, 483, 69, 95, 68, 70, 71, 484, 485, 486, 487, 89, 191, 192, 193, 194, 90, 92, 324, 325, 326, 327, 328, 531, 532, 533, 534, 750, 751, 752, 753, 754, 755, 756, 757, 758, 759, 760, 761, 762, 763, 764, 765, 766, 767, 768, 769, 770, 771, 772, 773, 774, 775, 776, 777, 778, 779, 780, 781, 782, 783, 784, 785, 786, 787, 788, 789, 790, 791] (by decide +kernel) (by decide +kernel)
set_option maxRecDepth 20000 in
theorem gL_law_X9_make : GoodIn wsL_law (wsV RL 75 RX9 yX9_make wsX9_make) := goodIn_app (goodIn_of _ (by decide +kernel)) ggL_law_X9_make
set_option maxRecDepth 20000 in
theorem ggL_law_X8_proxy : GoodIn wsL_law wsX8_proxy := goodIn_r _ [658, 14, 25, 100, 101, 102, 2, 103, 15, 420, 421, 422, 423, 24, 23, 424, 425, 426, 427, 428, 429, 19, 91, 18, 17, 152, 256, 257, 430, 431, 432, 11, 12, 433, 434, 435, 436, 437, 735, 736, 737, 738, 739, 740, 741, 742, 743, 744, 745, 746, 747, 748, 749, 794, 795, 796, 797, 798, 799, 800, 801, 802, 803, 804, 805, 830, 831, 832, 833, 834, 806, 807, 808, 809, 810, 811, 812, 813, 814, 815, 816, 817, 818, 819, 820, 821, 822] (by decide +kernel) (by decide +kernel)
set_option maxRecDepth 20000 in
theorem gL_law_X8_proxy : GoodIn wsL_law (wsV RL 76 RX8 yX8_proxy wsX8_proxy) := goodIn_app (goodIn_of _ (by decide +kernel)) ggL_law_X8_proxy
set_option maxRecDepth 20000 in
theorem ggL_law_X9_proxy : GoodIn wsL_law wsX9_proxy := goodIn_r _ [662, 114, 379, 64, 181, 87, 88, 116, 117, 118, 5, 119, 61, 120, 121, 122, 484, 485, 486, 487, 86, 89, 182, 73, 191, 192, 193, 194, 90, 75, 92, 750, 751, 752, 753, 754, 755, 756, 757, 758, 759, 760, 761, 762, 763, 764, 765, 766, 767, 768, 769, 770, 771, 772, 773, 774, 775, 776, 777, 778, 779, 780, 781, 782, 783, 784, 785, 786, 787, 788, 789, 790, 791] (by decide +kernel) (by decide +kernel)
set_option maxRecDepth 20000 in
theorem gL_law_X9_proxy : GoodIn wsL_law (wsV RL 79 RX9 yX9_proxy wsX9_proxy) := goodIn_app (goodIn_of _ (by decide +kernel)) ggL_law_X9_proxy
set_option maxRecDepth 20000 in
theorem ggL_law_X8_constant : GoodIn wsL_law wsX8_constant := goodIn_r _ [666, 14, 100, 101, 102, 2, 103, 15, 409, 410, 411, 412, 413, 36, 414, 415, 55, 49, 416, 417, 418, 419, 25, 420, 421, 422, 423, 24, 23, 424, 425, 426, 427, 428, 429, 19, 91, 18, 17, 152, 256, 257, 430, 431, 432, 11, 12, 433, 434, 435, 436, 437, 305, 306, 307, 308, 33, 735, 736, 737, 738, 739, 740, 741, 742, 743, 744, 745, 746, 747, 748, 749, 794, 795, 796, 797, 798, 799, 800, 801, 802, 803, 804, 805, 830, 831, 832, 833, 834, 806, 807, 808, 809, 810, 811, 812, 813, 814, 815, 816, 817, 818, 819, 820, 821, 822] (by decide +kernel) (by decide +kernel)
set_option maxRecDepth 20000 in
theorem gL_law_X8_constant : GoodIn wsL_law (wsV RL 80 RX8 yX8_constant wsX8_constant) := goodIn_app (goodIn_of _ (by decide +kernel)) ggL_law_X8_constant
set_option maxRecDepth 20000 in
theorem ggL_law_X9_constant : GoodIn wsL_law wsX9_constant := goodIn_r _ [670, 114, 64, 70, 71, 116, 117, 118, 5, 119, 61, 120, 121, 122, 480, 481, 482, 483, 69, 95, 63, 68, 181, 484, 485, 486, 487, 86, 87, 89, 182, 73, 191, 192, 193, 194, 90, 75, 92, 324, 325, 326, 327, 328, 750, 751, 752, 753, 754, 755, 756, 757, 758, 759, 760, 761, 762, 763, 764, 765, 766, 767, 768, 769, 770, 771, 772, 773, 774, 775, 776, 777, 778, 779, 780, 781, 782, 783, 784, 785, 786, 787, 788, 789, 790, 791] (by decide +kernel) (by decide +kernel)
set_option maxRecDepth 20000 in
theorem gL_law_X9_constant : GoodIn wsL_law (wsV RL 83 RX9 yX9_constant wsX9_constant) := goodIn_app (goodIn_of _ (by decide +kernel)) ggL_law_X9_constant
set_option maxRecDepth 20000 in
theorem ggL_law_X8_start : GoodIn wsL_law wsX8_start := goodIn_r _ [674, 14, 100, 101, 102, 2, 103, 15, 409, 410, 411, 412, 413, 36, 414, 415, 55, 49, 416, 417, 418, 419, 25, 420, 421, 422, 423, 24, 23, 424, 425, 426, 427, 428, 429, 19, 91, 18, 17, 152, 256, 257, 430, 431, 432, 11, 12, 433, 434, 435, 436, 437, 305, 306, 307, 308, 33, 735, 736, 737, 738, 739, 740, 741, 742, 743, 744, 745, 746, 747, 748, 749, 794, 795, 796, 797, 798, 799, 800, 801, 802, 803, 804, 805, 830, 831, 832, 833, 834, 806, 807, 808, 809, 810, 811, 812, 813, 814, 815, 816, 817, 818, 819, 820, 821, 822] (by decide +kernel) (by decide +kernel)
set_option maxRecDepth 20000 in
theorem gL_law_X8_start : GoodIn wsL_law (wsV RL 84 RX8 yX8_start wsX8_start) := goodIn_app (goodIn_of _ (by decide +kernel)) ggL_law_X8_start
set_option maxRecDepth 20000 in
theorem ggL_law_X9_start : GoodIn wsL_law wsX9_start := goodIn_r _ [678, 114, 116, 117, 118, 5, 119, 61, 120, 121, 122, 480, 481, 482, 483, 69, 95, 63, 68, 70, 71, 181, 484, 485, 486, 487, 86, 87, 89, 182, 73, 191, 192, 193, 194, 90, 75, 92, 324, 325, 326, 327, 328, 750, 751, 752, 753, 754, 755, 756, 757, 758, 759, 760, 761, 762, 763, 764, 765, 766, 767, 768, 769, 770, 771, 772, 773, 774, 775, 776, 777, 778, 779, 780, 781, 782, 783, 784, 785, 786, 787, 788, 789, 790, 791] (by decide +kernel) (by decide +kernel)
set_option maxRecDepth 20000 in
theorem gL_law_X9_start : GoodIn wsL_law (wsV RL 87 RX9 yX9_start wsX9_start) := goodIn_app (goodIn_of _ (by decide +kernel)) ggL_law_X9_start
set_option maxRecDepth 20000 in
theorem ggL_law_X8_resultKind : GoodIn wsL_law wsX8_resultKind := goodIn_r _ [682, 32, 735, 736, 737, 738, 739, 740, 741, 742, 743, 744, 745, 746, 747, 748, 749, 792, 793] (by decide +kernel) (by decide +kernel)
set_option maxRecDepth 20000 in
theorem gL_law_X8_resultKind : GoodIn wsL_law (wsV RL 88 RX8 yX8_resultKind wsX8_resultKind) := goodIn_app (goodIn_of _ (by decide +kernel)) ggL_law_X8_resultKind
set_option maxRecDepth 20000 in
theorem ggL_law_X9_resultKind : GoodIn wsL_law wsX9_resultKind := goodIn_r _ [686, 114, 466, 750, 751, 752, 753, 754, 755, 756, 757, 758, 759, 760, 761, 762, 763, 764, 765, 766, 767, 768, 769, 770, 771, 772, 773, 774, 775, 776, 777, 778, 779, 780, 781, 782, 783, 784, 785, 786, 787, 788, 789, 790, 791] (by decide +kernel) (by decide +kernel)
set_option maxRecDepth 20000 in
theorem gL_law_X9_resultKind : GoodIn wsL_law (wsV RL 92 RX9 yX9_resultKind wsX9_resultKind) := goodIn_app (goodIn_of _ (by decide +kernel)) ggL_law_X9_resultKind
set_option maxRecDepth 20000 in
theorem ggL_law_X8_result : GoodIn wsL_law wsX8_result := goodIn_r _ [690, 32, 735, 736, 737, 738, 739, 740, 741, 742, 743, 744, 745, 746, 747, 748, 749, 792, 793] (by decide +kernel) (by decide +kernel)
set_option maxRecDepth 20000 in
theorem gL_law_X8_result : GoodIn wsL_law (wsV RL 93 RX8 yX8_result wsX8_result) := goodIn_app (goodIn_of _ (by decide +kernel)) ggL_law_X8_result
set_option maxRecDepth 20000 in
theorem ggL_law_X9_result : GoodIn wsL_law wsX9_result := goodIn_r _ [694, 114, 467, 750, 751, 752, 753, 754, 755, 756, 757, 758, 759, 760, 761, 762, 763, 764, 765, 766, 767, 768, 769, 770, 771, 772, 773, 774, 775, 776, 777, 778, 779, 780, 781, 782, 783, 784, 785, 786, 787, 788, 789, 790, 791] (by decide +kernel) (by decide +kernel)
set_option maxRecDepth 20000 in
theorem gL_law_X9_result : GoodIn wsL_law (wsV RL 97 RX9 yX9_result wsX9_result) := goodIn_app (goodIn_of _ (by decide +kernel)) ggL_law_X9_result
set_option maxRecDepth 20000 in
theorem ggL_law_X8_cause : GoodIn wsL_law wsX8_cause := goodIn_r _ [698, 34, 735, 736, 737, 738, 739, 740, 741, 742, 743, 744, 745, 746, 747, 748, 749] (by decide +kernel) (by decide +kernel)
set_option maxRecDepth 20000 in
theorem gL_law_X8_cause : GoodIn wsL_law (wsV RL 98 RX8 yX8_cause wsX8_cause) := goodIn_app (goodIn_of _ (by decide +kernel)) ggL_law_X8_cause
set_option maxRecDepth 20000 in
theorem ggL_law_X9_cause : GoodIn wsL_law wsX9_cause := goodIn_r _ [702, 114, 626, 750, 751, 752, 753, 754, 755, 756, 757, 758, 759, 760, 761, 762, 763, 764, 765, 766, 767, 768, 769, 770, 771, 772, 773, 774, 775, 776, 777, 778, 779, 780, 781, 782, 783, 784, 785, 786, 787, 788, 789, 790, 791] (by decide +kernel) (by decide +kernel)
set_option maxRecDepth 20000 in
theorem gL_law_X9_cause : GoodIn wsL_law (wsV RL 101 RX9 yX9_cause wsX9_cause) := goodIn_app (goodIn_of _ (by decide +kernel)) ggL_law_X9_cause
set_option maxRecDepth 20000 in
theorem ggL_law_X8_about : GoodIn wsL_law wsX8_about := goodIn_r _ [706, 14, 100, 101, 102, 2, 103, 15, 735, 736, 737, 738, 739, 740, 741, 742, 743, 744, 745, 746, 747, 748, 749, 794, 795, 796, 797, 798, 799, 800, 801, 802, 803, 804, 805] (by decide +kernel) (by decide +kernel)
set_option maxRecDepth 20000 in
theorem gL_law_X8_about : GoodIn wsL_law (wsV RL 102 RX8 yX8_about wsX8_about) := goodIn_app (goodIn_of _ (by decide +kernel)) ggL_law_X8_about
set_option maxRecDepth 20000 in
theorem ggL_law_X9_about : GoodIn wsL_law wsX9_about := goodIn_r _ [710, 114, 182, 72, 64, 63, 65, 69, 116, 117, 118, 5, 119, 61, 120, 121, 122, 750, 751, 752, 753, 754, 755, 756, 757, 758, 759, 760, 761, 762, 763, 764, 765, 766, 767, 768, 769, 770, 771, 772, 773, 774, 775, 776, 777, 778, 779, 780, 781, 782, 783, 784, 785, 786, 787, 788, 789, 790, 791] (by decide +kernel) (by decide +kernel)
set_option maxRecDepth 20000 in
theorem gL_law_X9_about : GoodIn wsL_law (wsV RL 105 RX9 yX9_about wsX9_about) := goodIn_app (goodIn_of _ (by decide +kernel)) ggL_law_X9_about
set_option maxRecDepth 20000 in
theorem ggL_law_X8_is : GoodIn wsL_law wsX8_is := goodIn_r _ [714, 24, 14, 392, 393, 394, 2, 395, 25, 100, 101, 102, 103, 15, 442, 425, 443, 444, 437, 735, 736, 737, 738, 739, 740, 741, 742, 743, 744, 745, 746, 747, 748, 749, 830, 831, 832, 833, 834, 794, 795, 796, 797, 798, 799, 800, 801, 802, 803, 804, 805] (by decide +kernel) (by decide +kernel)
set_option maxRecDepth 20000 in
theorem gL_law_X8_is : GoodIn wsL_law (wsV RL 106 RX8 yX8_is wsX8_is) := goodIn_app (goodIn_of _ (by decide +kernel)) ggL_law_X8_is
set_option maxRecDepth 20000 in
theorem ggL_law_X9_is : GoodIn wsL_law wsX9_is := goodIn_r _ [718, 114, 380, 381, 382, 5, 383, 181, 120, 121, 122, 116, 117, 118, 119, 61, 492, 493, 494, 495, 87, 86, 65, 63, 496, 497, 498, 499, 750, 751, 752, 753, 754, 755, 756, 757, 758, 759, 760, 761, 762, 763, 764, 765, 766, 767, 768, 769, 770, 771, 772, 773, 774, 775, 776, 777, 778, 779, 780, 781, 782, 783, 784, 785, 786, 787, 788, 789, 790, 791] (by decide +kernel) (by decide +kernel)
set_option maxRecDepth 20000 in
theorem gL_law_X9_is : GoodIn wsL_law (wsV RL 109 RX9 yX9_is wsX9_is) := goodIn_app (goodIn_of _ (by decide +kernel)) ggL_law_X9_is
set_option maxRecDepth 20000 in
theorem ggL_law_X8_handle : GoodIn wsL_law wsX8_handle := goodIn_r _ [722, 21, 353, 354, 355, 2, 356, 22, 400, 401, 402, 403, 298, 175, 29, 735, 736, 737, 738, 739, 740, 741, 742, 743, 744, 745, 746, 747, 748, 749, 827, 828, 829, 806, 807, 808, 809, 810, 811, 812, 813, 814, 815, 816, 817, 818, 819, 820, 821, 822, 794, 795, 796, 797, 798, 799, 800, 801, 802, 803, 804, 805] (by decide +kernel) (by decide +kernel)
set_option maxRecDepth 20000 in
theorem gL_law_X8_handle : GoodIn wsL_law (wsV RL 110 RX8 yX8_handle wsX8_handle) := goodIn_app (goodIn_of _ (by decide +kernel)) ggL_law_X8_handle
set_option maxRecDepth 20000 in
theorem ggL_law_X9_handle : GoodIn wsL_law wsX9_handle := goodIn_r _ [726, 114, 84, 85, 361, 362, 363, 5, 364, 323, 120, 121, 122, 476, 477, 478, 479, 80, 72, 289, 750, 751, 752, 753, 754, 755, 756, 757, 758, 759, 760, 761, 762, 763, 764, 765, 766, 767, 768, 769, 770, 771, 772, 773, 774, 775, 776, 777, 778, 779, 780, 781, 782, 783, 784, 785, 786, 787, 788, 789, 790, 791] (by decide +kernel) (by decide +kernel)
set_option maxRecDepth 20000 in
theorem gL_law_X9_handle : GoodIn wsL_law (wsV RL 113 RX9 yX9_handle wsX9_handle) := goodIn_app (goodIn_of _ (by decide +kernel)) ggL_law_X9_handle
set_option maxRecDepth 20000 in
theorem ggL_law_X8_told : GoodIn wsL_law wsX8_told := goodIn_r _ [730, 15, 18, 22, 25, 28, 33, 735, 736, 737, 738, 739, 740, 741, 742, 743, 744, 745, 746, 747, 748, 749] (by decide +kernel) (by decide +kernel)
set_option maxRecDepth 20000 in
theorem gL_law_X8_told : GoodIn wsL_law (wsV RL 114 RX8 yX8_told wsX8_told) := goodIn_app (goodIn_of _ (by decide +kernel)) ggL_law_X8_told
set_option maxRecDepth 20000 in
theorem ggL_law_X9_told : GoodIn wsL_law wsX9_told := goodIn_r _ [734, 114, 61, 182, 323, 181, 378, 328, 750, 751, 752, 753, 754, 755, 756, 757, 758, 759, 760, 761, 762, 763, 764, 765, 766, 767, 768, 769, 770, 771, 772, 773, 774, 775, 776, 777, 778, 779, 780, 781, 782, 783, 784, 785, 786, 787, 788, 789, 790, 791] (by decide +kernel) (by decide +kernel)
set_option maxRecDepth 20000 in
theorem gL_law_X9_told : GoodIn wsL_law (wsV RL 117 RX9 yX9_told wsX9_told) := goodIn_app (goodIn_of _ (by decide +kernel)) ggL_law_X9_told
