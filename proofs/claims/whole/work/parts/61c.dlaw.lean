set_option maxRecDepth 20000 in
theorem ggL_law_X5_seatParty : GoodIn wsL_law wsX5_seatParty := goodIn_r _ [444, 133, 137, 138, 5, 139, 445, 446, 447, 448, 67, 147, 148, 149, 150, 449, 450, 451, 452, 333, 334, 335, 336, 453, 454, 455, 456, 337, 338, 339, 340, 341, 342, 343, 344, 345, 346, 347, 348, 349, 350, 351, 352, 353, 354, 355, 457, 458, 459, 460, 461, 462, 463, 464, 465, 466, 467, 468, 151, 152, 153, 154, 155, 68, 160, 161, 162, 163, 988, 989, 990, 991, 992, 993, 994, 995, 996, 997, 998, 999] (by decide +kernel) (by decide +kernel)
set_option maxRecDepth 20000 in
theorem gL_law_X5_seatParty : GoodIn wsL_law (wsV RL 123 RX5 yX5_seatParty wsX5_seatParty) := goodIn_app (goodIn_of _ (by decide +kernel)) ggL_law_X5_seatParty
set_option maxRecDepth 20000 in
theorem ggL_law_X4_clear : GoodIn wsL_law wsX4_clear := goodIn_r _ [472, 16, 94, 95, 96, 2, 97, 26, 20, 98, 99, 100, 25, 101, 102, 56, 103, 104, 105, 106, 107, 108, 109, 15, 110, 93, 35, 111, 112, 113, 114, 36, 37, 38, 115, 39, 40, 41, 42, 116, 117, 118, 19, 119, 120, 367, 368, 369, 370, 371, 372, 373, 374, 375, 376, 377, 378, 379, 380, 381, 473, 474, 475, 476, 982, 983, 984, 985, 986, 987, 1015, 1016, 1000, 1001, 1002, 1003, 1004, 1005, 1006, 1007, 1008, 1009, 1010, 1011, 1012, 1013, 1014] (by decide +kernel) (by decide +kernel)
set_option maxRecDepth 20000 in
theorem gL_law_X4_clear : GoodIn wsL_law (wsV RL 124 RX4 yX4_clear wsX4_clear) := goodIn_app (goodIn_of _ (by decide +kernel)) ggL_law_X4_clear
set_option maxRecDepth 20000 in
theorem ggL_law_X5_clear : GoodIn wsL_law wsX5_clear := goodIn_r _ [480, 133, 67, 151, 152, 153, 5, 154, 155, 68, 386, 387, 388, 389, 390, 391, 392, 393, 147, 148, 149, 150, 333, 334, 335, 336, 160, 161, 162, 163, 988, 989, 990, 991, 992, 993, 994, 995, 996, 997, 998, 999] (by decide +kernel) (by decide +kernel)
set_option maxRecDepth 20000 in
theorem gL_law_X5_clear : GoodIn wsL_law (wsV RL 127 RX5 yX5_clear wsX5_clear) := goodIn_app (goodIn_of _ (by decide +kernel)) ggL_law_X5_clear
set_option maxRecDepth 20000 in
theorem ggL_law_X4_liftAll : GoodIn wsL_law wsX4_liftAll := goodIn_r _ [484, 16, 182, 210, 94, 95, 96, 2, 97, 26, 20, 98, 99, 100, 25, 101, 102, 56, 103, 104, 105, 106, 107, 108, 109, 15, 110, 93, 35, 111, 112, 113, 114, 36, 37, 38, 115, 39, 40, 41, 42, 116, 117, 118, 19, 119, 120, 485, 486, 487, 488, 489, 490, 311, 491, 492, 493, 494, 495, 317, 318, 319, 320, 496, 497, 498, 499, 982, 983, 984, 985, 986, 987, 1000, 1001, 1002, 1003, 1004, 1005, 1006, 1007, 1008, 1009, 1015, 1016, 1010, 1011, 1012, 1013, 1014] (by decide +kernel) (by decide +kernel)
set_option maxRecDepth 20000 in
theorem gL_law_X4_liftAll : GoodIn wsL_law (wsV RL 128 RX4 yX4_liftAll wsX4_liftAll) := goodIn_app (goodIn_of _ (by decide +kernel)) ggL_law_X4_liftAll
set_option maxRecDepth 20000 in
theorem ggL_law_X5_liftAll : GoodIn wsL_law wsX5_liftAll := goodIn_r _ [503, 133, 67, 151, 152, 153, 5, 154, 155, 68, 504, 505, 506, 507, 147, 148, 149, 150, 508, 509, 510, 160, 161, 162, 163, 988, 989, 990, 991, 992, 993, 994, 995, 996, 997, 998, 999] (by decide +kernel) (by decide +kernel)
set_option maxRecDepth 20000 in
theorem gL_law_X5_liftAll : GoodIn wsL_law (wsV RL 131 RX5 yX5_liftAll wsX5_liftAll) := goodIn_app (goodIn_of _ (by decide +kernel)) ggL_law_X5_liftAll
set_option maxRecDepth 20000 in
theorem ggL_law_L_append : GoodIn wsL_law wsL_append := goodIn_ca (goodIn_ca (goodIn_r _ [513, 76, 77, 514, 515, 516, 2, 517, 82, 83, 84, 85, 30, 518, 519, 520, 521, 29, 522, 523, 61, 982, 983, 984, 985, 986, 987, 1017, 1018, 1019, 1020, 1021] (by decide +kernel) (by decide +kernel)) (goodIn_sub (fun _ h => List.mem_append_left _ (List.mem_append_left _ (List.mem_append_right _ h))) (by decide +kernel))) (goodIn_sub (fun _ h => List.mem_append_left _ (List.mem_append_right _ h)) (by decide +kernel))
set_option maxRecDepth 20000 in
theorem gL_law_L_append : GoodIn wsL_law (va_wsS RL 132 yL_append wsL_append) := goodIn_app (goodIn_of _ (by decide +kernel)) ggL_law_L_append
set_option maxRecDepth 20000 in
theorem ggL_law_X5_append : GoodIn wsL_law wsX5_append := goodIn_r _ [527, 528, 133, 69, 137, 138, 5, 139, 988, 989, 990, 991, 992, 993, 994, 995, 996, 997, 998, 999] (by decide +kernel) (by decide +kernel)
set_option maxRecDepth 20000 in
theorem gL_law_X5_append : GoodIn wsL_law (wsV RL 134 RX5 yX5_append wsX5_append) := goodIn_app (goodIn_of _ (by decide +kernel)) ggL_law_X5_append
set_option maxRecDepth 20000 in
theorem ggL_law_X4_clearBuffer : GoodIn wsL_law wsX4_clearBuffer := goodIn_r _ [532, 30, 518, 982, 983, 984, 985, 986, 987, 1017, 1018, 1019, 1020, 1021] (by decide +kernel) (by decide +kernel)
set_option maxRecDepth 20000 in
theorem gL_law_X4_clearBuffer : GoodIn wsL_law (wsV RL 135 RX4 yX4_clearBuffer wsX4_clearBuffer) := goodIn_app (goodIn_of _ (by decide +kernel)) ggL_law_X4_clearBuffer
set_option maxRecDepth 20000 in
theorem ggL_law_X5_clearBuffer : GoodIn wsL_law wsX5_clearBuffer := goodIn_r _ [536, 133, 528, 988, 989, 990, 991, 992, 993, 994, 995, 996, 997, 998, 999] (by decide +kernel) (by decide +kernel)
set_option maxRecDepth 20000 in
theorem gL_law_X5_clearBuffer : GoodIn wsL_law (wsV RL 138 RX5 yX5_clearBuffer wsX5_clearBuffer) := goodIn_app (goodIn_of _ (by decide +kernel)) ggL_law_X5_clearBuffer
set_option maxRecDepth 20000 in
theorem ggL_law_X4_firstError : GoodIn wsL_law wsX4_firstError := goodIn_r _ [540, 30, 541, 542, 543, 29, 544, 545, 546, 523, 61, 547, 548, 549, 550, 62, 551, 552, 553, 554, 555, 556, 557, 982, 983, 984, 985, 986, 987, 1017, 1018, 1019, 1020, 1021] (by decide +kernel) (by decide +kernel)
set_option maxRecDepth 20000 in
theorem gL_law_X4_firstError : GoodIn wsL_law (wsV RL 139 RX4 yX4_firstError wsX4_firstError) := goodIn_app (goodIn_of _ (by decide +kernel)) ggL_law_X4_firstError
