set_option maxRecDepth 20000 in
theorem ggL_law_X5_column : GoodIn wsL_law wsX5_column := goodIn_r _ [734, 132, 249, 250, 251, 5, 252, 66, 136, 137, 138, 735, 736, 737, 738, 464, 465, 466, 467, 739, 740, 741, 742, 146, 147, 148, 149, 460, 461, 462, 463, 348, 349, 350, 351, 352, 353, 354, 987, 988, 989, 990, 991, 992, 993, 994, 995, 996, 997, 998] (by decide +kernel) (by decide +kernel)
set_option maxRecDepth 20000 in
theorem gL_law_X5_column : GoodIn wsL_law (wsV RL 158 RX5 yX5_column wsX5_column) := goodIn_app (goodIn_of _ (by decide +kernel)) ggL_law_X5_column
set_option maxRecDepth 20000 in
theorem ggL_law_L_best : GoodIn wsL_law wsL_best := goodIn_ca (goodIn_r _ [745, 75, 746, 747, 748, 2, 749, 81, 82, 16, 400, 401, 402, 15, 403, 119, 34, 404, 405, 36, 37, 38, 406, 407, 408, 409, 300, 301, 33, 302, 44, 303, 289, 290, 291, 45, 304, 305, 306, 307, 42, 308, 309, 310, 311, 312, 313, 314, 315, 316, 317, 318, 319, 43, 49, 320, 321, 322, 323, 410, 411, 412, 413, 114, 414, 415, 416, 417, 46, 47, 48, 418, 419, 420, 421, 422, 423, 424, 425, 426, 427, 750, 751, 752, 753, 688, 754, 685, 686, 687, 982, 983, 984, 985, 986, 999, 1000, 1001, 1002, 1003, 1011, 1012, 1013, 1014, 1015, 1016, 1017, 1018, 1019, 1020] (by decide +kernel) (by decide +kernel)) (goodIn_sub (fun _ h => List.mem_append_left _ (List.mem_append_left _ (List.mem_append_right _ h))) (by decide +kernel))
set_option maxRecDepth 20000 in
theorem gL_law_L_best : GoodIn wsL_law (va_wsS RL 159 yL_best wsL_best) := goodIn_app (goodIn_of _ (by decide +kernel)) ggL_law_L_best
set_option maxRecDepth 20000 in
theorem ggL_law_X5_best : GoodIn wsL_law wsX5_best := goodIn_r _ [758, 132, 759, 760, 761, 5, 762, 66, 701, 702, 703, 704, 70, 146, 147, 148, 149, 452, 453, 454, 455, 336, 337, 338, 339, 332, 333, 334, 335, 340, 341, 342, 343, 344, 345, 346, 347, 348, 349, 350, 351, 352, 353, 354, 456, 457, 458, 459, 460, 461, 462, 463, 464, 465, 466, 467, 705, 706, 707, 708, 709, 710, 711, 712, 987, 988, 989, 990, 991, 992, 993, 994, 995, 996, 997, 998] (by decide +kernel) (by decide +kernel)
set_option maxRecDepth 20000 in
theorem gL_law_X5_best : GoodIn wsL_law (wsV RL 161 RX5 yX5_best wsX5_best) := goodIn_app (goodIn_of _ (by decide +kernel)) ggL_law_X5_best
set_option maxRecDepth 20000 in
theorem ggL_law_L_whoBlocks : GoodIn wsL_law wsL_whoBlocks := goodIn_ca (goodIn_r _ [765, 170, 766, 767, 768, 2, 769, 18, 283, 284, 285, 286, 179, 180, 287, 175, 176, 177, 178, 181, 770, 771, 772, 33, 773, 44, 303, 289, 290, 291, 45, 304, 305, 306, 307, 42, 308, 309, 310, 311, 312, 313, 314, 315, 316, 317, 318, 319, 43, 49, 320, 321, 322, 323, 982, 983, 984, 985, 986, 1011, 1012, 1013, 1014, 1015, 1016, 1017, 1018, 1019, 1020] (by decide +kernel) (by decide +kernel)) (goodIn_sub (fun _ h => List.mem_append_right _ h) (by decide +kernel))
set_option maxRecDepth 20000 in
theorem gL_law_L_whoBlocks : GoodIn wsL_law (va_wsS RL 162 yL_whoBlocks wsL_whoBlocks) := goodIn_app (goodIn_of _ (by decide +kernel)) ggL_law_L_whoBlocks
set_option maxRecDepth 20000 in
theorem ggL_law_X5_whoBlocks : GoodIn wsL_law wsX5_whoBlocks := goodIn_r _ [777, 132, 328, 329, 330, 5, 331, 194, 195, 196, 197, 66, 136, 137, 138, 146, 147, 148, 149, 778, 779, 780, 781, 332, 333, 334, 335, 340, 341, 342, 343, 344, 345, 346, 347, 348, 349, 350, 351, 352, 353, 354, 987, 988, 989, 990, 991, 992, 993, 994, 995, 996, 997, 998] (by decide +kernel) (by decide +kernel)
set_option maxRecDepth 20000 in
theorem gL_law_X5_whoBlocks : GoodIn wsL_law (wsV RL 164 RX5 yX5_whoBlocks wsX5_whoBlocks) := goodIn_app (goodIn_of _ (by decide +kernel)) ggL_law_X5_whoBlocks
set_option maxRecDepth 20000 in
theorem ggL_law_L_count : GoodIn wsL_law wsL_count := goodIn_ca (goodIn_r _ [784, 75, 785, 786, 787, 2, 788, 16, 631, 632, 633, 81, 82, 400, 401, 402, 15, 403, 119, 34, 404, 405, 36, 37, 38, 406, 407, 408, 409, 300, 301, 33, 302, 44, 303, 289, 290, 291, 45, 304, 305, 306, 307, 42, 308, 309, 310, 311, 312, 313, 314, 315, 316, 317, 318, 319, 43, 49, 320, 321, 322, 323, 410, 411, 412, 413, 114, 414, 415, 416, 417, 46, 47, 48, 418, 419, 420, 421, 422, 423, 424, 425, 426, 427, 789, 790, 791, 792, 18, 181, 221, 23, 615, 186, 187, 188, 189, 92, 366, 367, 368, 369, 370, 371, 372, 373, 374, 375, 376, 377, 378, 379, 380, 793, 794, 795, 796, 797, 641, 642, 643, 644, 645, 646, 647, 798, 799, 800, 801, 688, 802, 803, 804, 805, 806, 807, 808, 809, 488, 489, 490, 982, 983, 984, 985, 986, 999, 1000, 1001, 1002, 1003, 1011, 1012, 1013, 1014, 1015, 1016, 1017, 1018, 1019, 1020, 1004, 1005] (by decide +kernel) (by decide +kernel)) (goodIn_sub (fun _ h => List.mem_append_left _ (List.mem_append_left _ (List.mem_append_right _ h))) (by decide +kernel))
set_option maxRecDepth 20000 in
theorem gL_law_L_count : GoodIn wsL_law (va_wsS RL 165 yL_count wsL_count) := goodIn_app (goodIn_of _ (by decide +kernel)) ggL_law_L_count
set_option maxRecDepth 20000 in
theorem ggL_law_X5_count : GoodIn wsL_law wsX5_count := goodIn_r _ [813, 132, 136, 137, 5, 138, 814, 815, 816, 817, 66, 154, 198, 199, 200, 201, 146, 147, 148, 149, 385, 386, 387, 388, 389, 390, 391, 392, 332, 333, 334, 335, 818, 819, 820, 821, 656, 657, 658, 659, 660, 661, 662, 663, 452, 453, 454, 455, 336, 337, 338, 339, 340, 341, 342, 343, 344, 345, 346, 347, 348, 349, 350, 351, 352, 353, 354, 456, 457, 458, 459, 460, 461, 462, 463, 464, 465, 466, 467, 822, 823, 824, 825, 826, 827, 828, 829, 987, 988, 989, 990, 991, 992, 993, 994, 995, 996, 997, 998] (by decide +kernel) (by decide +kernel)
set_option maxRecDepth 20000 in
theorem gL_law_X5_count : GoodIn wsL_law (wsV RL 167 RX5 yX5_count wsX5_count) := goodIn_app (goodIn_of _ (by decide +kernel)) ggL_law_X5_count
set_option maxRecDepth 20000 in
theorem ggL_law_L_setting : GoodIn wsL_law wsL_setting := goodIn_ca (goodIn_r _ [832, 170, 833, 834, 835, 2, 836, 18, 262, 263, 264, 265, 179, 180, 982, 983, 984, 985, 986, 1011, 1012, 1013, 1014, 1015, 1016, 1017, 1018, 1019, 1020] (by decide +kernel) (by decide +kernel)) (goodIn_sub (fun _ h => List.mem_append_right _ h) (by decide +kernel))
set_option maxRecDepth 20000 in
theorem gL_law_L_setting : GoodIn wsL_law (va_wsS RL 168 yL_setting wsL_setting) := goodIn_app (goodIn_of _ (by decide +kernel)) ggL_law_L_setting
set_option maxRecDepth 20000 in
theorem ggL_law_X5_setting : GoodIn wsL_law wsX5_setting := goodIn_r _ [840, 132, 66, 270, 271, 5, 272, 136, 137, 138, 987, 988, 989, 990, 991, 992, 993, 994, 995, 996, 997, 998] (by decide +kernel) (by decide +kernel)
set_option maxRecDepth 20000 in
theorem gL_law_X5_setting : GoodIn wsL_law (wsV RL 170 RX5 yX5_setting wsX5_setting) := goodIn_app (goodIn_of _ (by decide +kernel)) ggL_law_X5_setting
set_option maxRecDepth 20000 in
theorem ggL_law_L_leastHeight : GoodIn wsL_law wsL_leastHeight := goodIn_ca (goodIn_r _ [843, 170, 844, 845, 846, 2, 847, 18, 175, 176, 177, 178, 179, 180, 181, 484, 485, 486, 33, 487, 488, 489, 310, 490, 491, 492, 493, 494, 42, 49, 316, 317, 318, 319, 43, 495, 496, 497, 498, 982, 983, 984, 985, 986, 1011, 1012, 1013, 1014, 1015, 1016, 1017, 1018, 1019, 1020] (by decide +kernel) (by decide +kernel)) (goodIn_sub (fun _ h => List.mem_append_right _ h) (by decide +kernel))
set_option maxRecDepth 20000 in
theorem gL_law_L_leastHeight : GoodIn wsL_law (va_wsS RL 171 yL_leastHeight wsL_leastHeight) := goodIn_app (goodIn_of _ (by decide +kernel)) ggL_law_L_leastHeight
