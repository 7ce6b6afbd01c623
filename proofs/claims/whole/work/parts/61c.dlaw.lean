set_option maxRecDepth 20000 in
theorem ggL_law_X5_seatParty : GoodIn wsL_law wsX5_seatParty := goodIn_r _ [443, 132, 136, 137, 5, 138, 444, 445, 446, 447, 66, 146, 147, 148, 149, 448, 449, 450, 451, 332, 333, 334, 335, 452, 453, 454, 455, 336, 337, 338, 339, 340, 341, 342, 343, 344, 345, 346, 347, 348, 349, 350, 351, 352, 353, 354, 456, 457, 458, 459, 460, 461, 462, 463, 464, 465, 466, 467, 150, 151, 152, 153, 154, 67, 159, 160, 161, 162, 987, 988, 989, 990, 991, 992, 993, 994, 995, 996, 997, 998] (by decide +kernel) (by decide +kernel)
set_option maxRecDepth 20000 in
theorem gL_law_X5_seatParty : GoodIn wsL_law (wsV RL 123 RX5 yX5_seatParty wsX5_seatParty) := goodIn_app (goodIn_of _ (by decide +kernel)) ggL_law_X5_seatParty
set_option maxRecDepth 20000 in
theorem ggL_law_X4_clear : GoodIn wsL_law wsX4_clear := goodIn_r _ [471, 18, 93, 94, 95, 2, 96, 23, 16, 97, 98, 99, 22, 100, 101, 55, 102, 103, 104, 105, 106, 107, 108, 33, 109, 92, 42, 110, 111, 112, 113, 43, 44, 45, 114, 46, 47, 48, 49, 115, 116, 117, 15, 118, 119, 366, 367, 368, 369, 370, 371, 372, 373, 374, 375, 376, 377, 378, 379, 380, 472, 473, 474, 475, 982, 983, 984, 985, 986, 1004, 1005, 1011, 1012, 1013, 1014, 1015, 1016, 1017, 1018, 1019, 1020, 999, 1000, 1001, 1002, 1003] (by decide +kernel) (by decide +kernel)
set_option maxRecDepth 20000 in
theorem gL_law_X4_clear : GoodIn wsL_law (wsV RL 124 RX4 yX4_clear wsX4_clear) := goodIn_app (goodIn_of _ (by decide +kernel)) ggL_law_X4_clear
set_option maxRecDepth 20000 in
theorem ggL_law_X5_clear : GoodIn wsL_law wsX5_clear := goodIn_r _ [479, 132, 66, 150, 151, 152, 5, 153, 154, 67, 385, 386, 387, 388, 389, 390, 391, 392, 146, 147, 148, 149, 332, 333, 334, 335, 159, 160, 161, 162, 987, 988, 989, 990, 991, 992, 993, 994, 995, 996, 997, 998] (by decide +kernel) (by decide +kernel)
set_option maxRecDepth 20000 in
theorem gL_law_X5_clear : GoodIn wsL_law (wsV RL 127 RX5 yX5_clear wsX5_clear) := goodIn_app (goodIn_of _ (by decide +kernel)) ggL_law_X5_clear
set_option maxRecDepth 20000 in
theorem ggL_law_X4_liftAll : GoodIn wsL_law wsX4_liftAll := goodIn_r _ [483, 18, 181, 209, 93, 94, 95, 2, 96, 23, 16, 97, 98, 99, 22, 100, 101, 55, 102, 103, 104, 105, 106, 107, 108, 33, 109, 92, 42, 110, 111, 112, 113, 43, 44, 45, 114, 46, 47, 48, 49, 115, 116, 117, 15, 118, 119, 484, 485, 486, 487, 488, 489, 310, 490, 491, 492, 493, 494, 316, 317, 318, 319, 495, 496, 497, 498, 982, 983, 984, 985, 986, 1011, 1012, 1013, 1014, 1015, 1016, 1017, 1018, 1019, 1020, 1004, 1005, 999, 1000, 1001, 1002, 1003] (by decide +kernel) (by decide +kernel)
set_option maxRecDepth 20000 in
theorem gL_law_X4_liftAll : GoodIn wsL_law (wsV RL 128 RX4 yX4_liftAll wsX4_liftAll) := goodIn_app (goodIn_of _ (by decide +kernel)) ggL_law_X4_liftAll
set_option maxRecDepth 20000 in
theorem ggL_law_X5_liftAll : GoodIn wsL_law wsX5_liftAll := goodIn_r _ [502, 132, 66, 150, 151, 152, 5, 153, 154, 67, 503, 504, 505, 506, 146, 147, 148, 149, 507, 508, 509, 159, 160, 161, 162, 987, 988, 989, 990, 991, 992, 993, 994, 995, 996, 997, 998] (by decide +kernel) (by decide +kernel)
set_option maxRecDepth 20000 in
theorem gL_law_X5_liftAll : GoodIn wsL_law (wsV RL 131 RX5 yX5_liftAll wsX5_liftAll) := goodIn_app (goodIn_of _ (by decide +kernel)) ggL_law_X5_liftAll
set_option maxRecDepth 20000 in
theorem ggL_law_L_append : GoodIn wsL_law wsL_append := goodIn_ca (goodIn_ca (goodIn_r _ [512, 75, 76, 513, 514, 515, 2, 516, 81, 82, 83, 84, 27, 517, 518, 519, 520, 26, 521, 522, 60, 982, 983, 984, 985, 986, 1006, 1007, 1008, 1009, 1010] (by decide +kernel) (by decide +kernel)) (goodIn_sub (fun _ h => List.mem_append_left _ (List.mem_append_left _ (List.mem_append_right _ h))) (by decide +kernel))) (goodIn_sub (fun _ h => List.mem_append_left _ (List.mem_append_right _ h)) (by decide +kernel))
set_option maxRecDepth 20000 in
theorem gL_law_L_append : GoodIn wsL_law (va_wsS RL 132 yL_append wsL_append) := goodIn_app (goodIn_of _ (by decide +kernel)) ggL_law_L_append
set_option maxRecDepth 20000 in
theorem ggL_law_X5_append : GoodIn wsL_law wsX5_append := goodIn_r _ [526, 527, 132, 68, 136, 137, 5, 138, 987, 988, 989, 990, 991, 992, 993, 994, 995, 996, 997, 998] (by decide +kernel) (by decide +kernel)
set_option maxRecDepth 20000 in
theorem gL_law_X5_append : GoodIn wsL_law (wsV RL 134 RX5 yX5_append wsX5_append) := goodIn_app (goodIn_of _ (by decide +kernel)) ggL_law_X5_append
set_option maxRecDepth 20000 in
theorem ggL_law_X4_clearBuffer : GoodIn wsL_law wsX4_clearBuffer := goodIn_r _ [531, 27, 517, 982, 983, 984, 985, 986, 1006, 1007, 1008, 1009, 1010] (by decide +kernel) (by decide +kernel)
set_option maxRecDepth 20000 in
theorem gL_law_X4_clearBuffer : GoodIn wsL_law (wsV RL 135 RX4 yX4_clearBuffer wsX4_clearBuffer) := goodIn_app (goodIn_of _ (by decide +kernel)) ggL_law_X4_clearBuffer
set_option maxRecDepth 20000 in
theorem ggL_law_X5_clearBuffer : GoodIn wsL_law wsX5_clearBuffer := goodIn_r _ [535, 132, 527, 987, 988, 989, 990, 991, 992, 993, 994, 995, 996, 997, 998] (by decide +kernel) (by decide +kernel)
set_option maxRecDepth 20000 in
theorem gL_law_X5_clearBuffer : GoodIn wsL_law (wsV RL 138 RX5 yX5_clearBuffer wsX5_clearBuffer) := goodIn_app (goodIn_of _ (by decide +kernel)) ggL_law_X5_clearBuffer
set_option maxRecDepth 20000 in
theorem ggL_law_X4_firstError : GoodIn wsL_law wsX4_firstError := goodIn_r _ [539, 27, 540, 541, 542, 26, 543, 544, 545, 522, 60, 546, 547, 548, 549, 61, 550, 551, 552, 553, 554, 555, 556, 982, 983, 984, 985, 986, 1006, 1007, 1008, 1009, 1010] (by decide +kernel) (by decide +kernel)
set_option maxRecDepth 20000 in
theorem gL_law_X4_firstError : GoodIn wsL_law (wsV RL 139 RX4 yX4_firstError wsX4_firstError) := goodIn_app (goodIn_of _ (by decide +kernel)) ggL_law_X4_firstError
