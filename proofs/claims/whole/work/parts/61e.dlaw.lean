set_option maxRecDepth 20000 in
theorem ggL_law_X5_column : GoodIn wsL_law wsX5_column := goodIn_r _ [735, 133, 250, 251, 252, 5, 253, 67, 137, 138, 139, 736, 737, 738, 739, 465, 466, 467, 468, 740, 741, 742, 743, 147, 148, 149, 150, 461, 462, 463, 464, 349, 350, 351, 352, 353, 354, 355, 988, 989, 990, 991, 992, 993, 994, 995, 996, 997, 998, 999] (by decide +kernel) (by decide +kernel)
set_option maxRecDepth 20000 in
theorem gL_law_X5_column : GoodIn wsL_law (wsV RL 158 RX5 yX5_column wsX5_column) := goodIn_app (goodIn_of _ (by decide +kernel)) ggL_law_X5_column
set_option maxRecDepth 20000 in
theorem ggL_law_L_best : GoodIn wsL_law wsL_best := goodIn_ca (goodIn_r _ [746, 76, 747, 748, 749, 2, 750, 82, 83, 20, 401, 402, 403, 19, 404, 120, 50, 405, 406, 47, 48, 49, 407, 408, 409, 410, 301, 302, 15, 303, 37, 304, 290, 291, 292, 38, 305, 306, 307, 308, 35, 309, 310, 311, 312, 313, 314, 315, 316, 317, 318, 319, 320, 36, 42, 321, 322, 323, 324, 411, 412, 413, 414, 115, 415, 416, 417, 418, 39, 40, 41, 419, 420, 421, 422, 423, 424, 425, 426, 427, 428, 751, 752, 753, 754, 689, 755, 686, 687, 688, 982, 983, 984, 985, 986, 987, 1010, 1011, 1012, 1013, 1014, 1000, 1001, 1002, 1003, 1004, 1005, 1006, 1007, 1008, 1009] (by decide +kernel) (by decide +kernel)) (goodIn_sub (fun _ h => List.mem_append_left _ (List.mem_append_left _ (List.mem_append_right _ h))) (by decide +kernel))
set_option maxRecDepth 20000 in
theorem gL_law_L_best : GoodIn wsL_law (va_wsS RL 159 yL_best wsL_best) := goodIn_app (goodIn_of _ (by decide +kernel)) ggL_law_L_best
set_option maxRecDepth 20000 in
theorem ggL_law_X5_best : GoodIn wsL_law wsX5_best := goodIn_r _ [759, 133, 760, 761, 762, 5, 763, 67, 702, 703, 704, 705, 71, 147, 148, 149, 150, 453, 454, 455, 456, 337, 338, 339, 340, 333, 334, 335, 336, 341, 342, 343, 344, 345, 346, 347, 348, 349, 350, 351, 352, 353, 354, 355, 457, 458, 459, 460, 461, 462, 463, 464, 465, 466, 467, 468, 706, 707, 708, 709, 710, 711, 712, 713, 988, 989, 990, 991, 992, 993, 994, 995, 996, 997, 998, 999] (by decide +kernel) (by decide +kernel)
set_option maxRecDepth 20000 in
theorem gL_law_X5_best : GoodIn wsL_law (wsV RL 161 RX5 yX5_best wsX5_best) := goodIn_app (goodIn_of _ (by decide +kernel)) ggL_law_X5_best
set_option maxRecDepth 20000 in
theorem ggL_law_L_whoBlocks : GoodIn wsL_law wsL_whoBlocks := goodIn_ca (goodIn_r _ [766, 171, 767, 768, 769, 2, 770, 16, 284, 285, 286, 287, 180, 181, 288, 176, 177, 178, 179, 182, 771, 772, 773, 15, 774, 37, 304, 290, 291, 292, 38, 305, 306, 307, 308, 35, 309, 310, 311, 312, 313, 314, 315, 316, 317, 318, 319, 320, 36, 42, 321, 322, 323, 324, 982, 983, 984, 985, 986, 987, 1000, 1001, 1002, 1003, 1004, 1005, 1006, 1007, 1008, 1009] (by decide +kernel) (by decide +kernel)) (goodIn_sub (fun _ h => List.mem_append_right _ h) (by decide +kernel))
set_option maxRecDepth 20000 in
theorem gL_law_L_whoBlocks : GoodIn wsL_law (va_wsS RL 162 yL_whoBlocks wsL_whoBlocks) := goodIn_app (goodIn_of _ (by decide +kernel)) ggL_law_L_whoBlocks
set_option maxRecDepth 20000 in
theorem ggL_law_X5_whoBlocks : GoodIn wsL_law wsX5_whoBlocks := goodIn_r _ [778, 133, 329, 330, 331, 5, 332, 195, 196, 197, 198, 67, 137, 138, 139, 147, 148, 149, 150, 779, 780, 781, 782, 333, 334, 335, 336, 341, 342, 343, 344, 345, 346, 347, 348, 349, 350, 351, 352, 353, 354, 355, 988, 989, 990, 991, 992, 993, 994, 995, 996, 997, 998, 999] (by decide +kernel) (by decide +kernel)
set_option maxRecDepth 20000 in
theorem gL_law_X5_whoBlocks : GoodIn wsL_law (wsV RL 164 RX5 yX5_whoBlocks wsX5_whoBlocks) := goodIn_app (goodIn_of _ (by decide +kernel)) ggL_law_X5_whoBlocks
set_option maxRecDepth 20000 in
theorem ggL_law_L_count : GoodIn wsL_law wsL_count := goodIn_ca (goodIn_r _ [785, 76, 786, 787, 788, 2, 789, 20, 632, 633, 634, 82, 83, 401, 402, 403, 19, 404, 120, 50, 405, 406, 47, 48, 49, 407, 408, 409, 410, 301, 302, 15, 303, 37, 304, 290, 291, 292, 38, 305, 306, 307, 308, 35, 309, 310, 311, 312, 313, 314, 315, 316, 317, 318, 319, 320, 36, 42, 321, 322, 323, 324, 411, 412, 413, 414, 115, 415, 416, 417, 418, 39, 40, 41, 419, 420, 421, 422, 423, 424, 425, 426, 427, 428, 790, 791, 792, 793, 16, 182, 222, 26, 616, 187, 188, 189, 190, 93, 367, 368, 369, 370, 371, 372, 373, 374, 375, 376, 377, 378, 379, 380, 381, 794, 795, 796, 797, 798, 642, 643, 644, 645, 646, 647, 648, 799, 800, 801, 802, 689, 803, 804, 805, 806, 807, 808, 809, 810, 489, 490, 491, 982, 983, 984, 985, 986, 987, 1010, 1011, 1012, 1013, 1014, 1000, 1001, 1002, 1003, 1004, 1005, 1006, 1007, 1008, 1009, 1015, 1016] (by decide +kernel) (by decide +kernel)) (goodIn_sub (fun _ h => List.mem_append_left _ (List.mem_append_left _ (List.mem_append_right _ h))) (by decide +kernel))
set_option maxRecDepth 20000 in
theorem gL_law_L_count : GoodIn wsL_law (va_wsS RL 165 yL_count wsL_count) := goodIn_app (goodIn_of _ (by decide +kernel)) ggL_law_L_count
set_option maxRecDepth 20000 in
theorem ggL_law_X5_count : GoodIn wsL_law wsX5_count := goodIn_r _ [814, 133, 137, 138, 5, 139, 815, 816, 817, 818, 67, 155, 199, 200, 201, 202, 147, 148, 149, 150, 386, 387, 388, 389, 390, 391, 392, 393, 333, 334, 335, 336, 819, 820, 821, 822, 657, 658, 659, 660, 661, 662, 663, 664, 453, 454, 455, 456, 337, 338, 339, 340, 341, 342, 343, 344, 345, 346, 347, 348, 349, 350, 351, 352, 353, 354, 355, 457, 458, 459, 460, 461, 462, 463, 464, 465, 466, 467, 468, 823, 824, 825, 826, 827, 828, 829, 830, 988, 989, 990, 991, 992, 993, 994, 995, 996, 997, 998, 999] (by decide +kernel) (by decide +kernel)
set_option maxRecDepth 20000 in
theorem gL_law_X5_count : GoodIn wsL_law (wsV RL 167 RX5 yX5_count wsX5_count) := goodIn_app (goodIn_of _ (by decide +kernel)) ggL_law_X5_count
set_option maxRecDepth 20000 in
theorem ggL_law_L_setting : GoodIn wsL_law wsL_setting := goodIn_ca (goodIn_r _ [833, 171, 834, 835, 836, 2, 837, 16, 263, 264, 265, 266, 180, 181, 982, 983, 984, 985, 986, 987, 1000, 1001, 1002, 1003, 1004, 1005, 1006, 1007, 1008, 1009] (by decide +kernel) (by decide +kernel)) (goodIn_sub (fun _ h => List.mem_append_right _ h) (by decide +kernel))
set_option maxRecDepth 20000 in
theorem gL_law_L_setting : GoodIn wsL_law (va_wsS RL 168 yL_setting wsL_setting) := goodIn_app (goodIn_of _ (by decide +kernel)) ggL_law_L_setting
set_option maxRecDepth 20000 in
theorem ggL_law_X5_setting : GoodIn wsL_law wsX5_setting := goodIn_r _ [841, 133, 67, 271, 272, 5, 273, 137, 138, 139, 988, 989, 990, 991, 992, 993, 994, 995, 996, 997, 998, 999] (by decide +kernel) (by decide +kernel)
set_option maxRecDepth 20000 in
theorem gL_law_X5_setting : GoodIn wsL_law (wsV RL 170 RX5 yX5_setting wsX5_setting) := goodIn_app (goodIn_of _ (by decide +kernel)) ggL_law_X5_setting
set_option maxRecDepth 20000 in
theorem ggL_law_L_leastHeight : GoodIn wsL_law wsL_leastHeight := goodIn_ca (goodIn_r _ [844, 171, 845, 846, 847, 2, 848, 16, 176, 177, 178, 179, 180, 181, 182, 485, 486, 487, 15, 488, 489, 490, 311, 491, 492, 493, 494, 495, 35, 42, 317, 318, 319, 320, 36, 496, 497, 498, 499, 982, 983, 984, 985, 986, 987, 1000, 1001, 1002, 1003, 1004, 1005, 1006, 1007, 1008, 1009] (by decide +kernel) (by decide +kernel)) (goodIn_sub (fun _ h => List.mem_append_right _ h) (by decide +kernel))
set_option maxRecDepth 20000 in
theorem gL_law_L_leastHeight : GoodIn wsL_law (va_wsS RL 171 yL_leastHeight wsL_leastHeight) := goodIn_app (goodIn_of _ (by decide +kernel)) ggL_law_L_leastHeight
