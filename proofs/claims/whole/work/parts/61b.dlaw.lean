set_option maxRecDepth 20000 in
theorem ggL_law_X5_addColumn : GoodIn wsL_law wsX5_addColumn := goodIn_r _ [230, 67, 133, 134, 135, 5, 136, 137, 138, 139, 151, 152, 153, 154, 155, 68, 988, 989, 990, 991, 992, 993, 994, 995, 996, 997, 998, 999] (by decide +kernel) (by decide +kernel)
set_option maxRecDepth 20000 in
theorem gL_law_X5_addColumn : GoodIn wsL_law (wsV RL 108 RX5 yX5_addColumn wsX5_addColumn) := goodIn_app (goodIn_of _ (by decide +kernel)) ggL_law_X5_addColumn
set_option maxRecDepth 20000 in
theorem ggL_law_L_removeColumn : GoodIn wsL_law wsL_removeColumn := goodIn_ca (goodIn_r _ [233, 171, 234, 235, 236, 2, 237, 16, 222, 238, 239, 240, 241, 180, 181, 94, 95, 96, 97, 26, 20, 98, 99, 100, 25, 101, 102, 56, 103, 104, 105, 106, 107, 108, 109, 15, 110, 93, 35, 111, 112, 113, 114, 36, 37, 38, 115, 39, 40, 41, 42, 116, 117, 118, 19, 119, 120, 242, 243, 244, 245, 982, 983, 984, 985, 986, 987, 1000, 1001, 1002, 1003, 1004, 1005, 1006, 1007, 1008, 1009, 1015, 1016, 1010, 1011, 1012, 1013, 1014] (by decide +kernel) (by decide +kernel)) (goodIn_sub (fun _ h => List.mem_append_right _ h) (by decide +kernel))
set_option maxRecDepth 20000 in
theorem gL_law_L_removeColumn : GoodIn wsL_law (va_wsS RL 109 yL_removeColumn wsL_removeColumn) := goodIn_app (goodIn_of _ (by decide +kernel)) ggL_law_L_removeColumn
set_option maxRecDepth 20000 in
theorem ggL_law_X5_removeColumn : GoodIn wsL_law wsX5_removeColumn := goodIn_r _ [249, 133, 67, 250, 251, 252, 5, 253, 137, 138, 139, 151, 152, 153, 154, 155, 68, 988, 989, 990, 991, 992, 993, 994, 995, 996, 997, 998, 999] (by decide +kernel) (by decide +kernel)
set_option maxRecDepth 20000 in
theorem gL_law_X5_removeColumn : GoodIn wsL_law (wsV RL 111 RX5 yX5_removeColumn wsX5_removeColumn) := goodIn_app (goodIn_of _ (by decide +kernel)) ggL_law_X5_removeColumn
set_option maxRecDepth 20000 in
theorem ggL_law_L_set : GoodIn wsL_law wsL_set := goodIn_ca (goodIn_ca (goodIn_r _ [256, 171, 76, 257, 258, 259, 2, 260, 82, 83, 261, 262, 16, 263, 264, 265, 266, 180, 181, 94, 95, 96, 97, 26, 20, 98, 99, 100, 25, 101, 102, 56, 103, 104, 105, 106, 107, 108, 109, 15, 110, 93, 35, 111, 112, 113, 114, 36, 37, 38, 115, 39, 40, 41, 42, 116, 117, 118, 19, 119, 120, 982, 983, 984, 985, 986, 987, 1000, 1001, 1002, 1003, 1004, 1005, 1006, 1007, 1008, 1009, 1015, 1016, 1010, 1011, 1012, 1013, 1014] (by decide +kernel) (by decide +kernel)) (goodIn_sub (fun _ h => List.mem_append_left _ (List.mem_append_left _ (List.mem_append_right _ h))) (by decide +kernel))) (goodIn_sub (fun _ h => List.mem_append_right _ h) (by decide +kernel))
set_option maxRecDepth 20000 in
theorem gL_law_L_set : GoodIn wsL_law (va_wsS RL 112 yL_set wsL_set) := goodIn_app (goodIn_of _ (by decide +kernel)) ggL_law_L_set
set_option maxRecDepth 20000 in
theorem ggL_law_X5_set : GoodIn wsL_law wsX5_set := goodIn_r _ [270, 133, 67, 271, 272, 5, 273, 137, 138, 139, 274, 275, 276, 151, 152, 153, 154, 155, 68, 988, 989, 990, 991, 992, 993, 994, 995, 996, 997, 998, 999] (by decide +kernel) (by decide +kernel)
set_option maxRecDepth 20000 in
theorem gL_law_X5_set : GoodIn wsL_law (wsV RL 114 RX5 yX5_set wsX5_set) := goodIn_app (goodIn_of _ (by decide +kernel)) ggL_law_X5_set
set_option maxRecDepth 20000 in
theorem ggL_law_L_take : GoodIn wsL_law wsL_take := goodIn_ca (goodIn_ca (goodIn_r _ [279, 171, 77, 280, 281, 282, 2, 283, 84, 85, 16, 284, 285, 286, 287, 180, 181, 288, 176, 177, 178, 179, 182, 289, 290, 291, 15, 292, 38, 94, 95, 96, 97, 26, 20, 98, 99, 100, 25, 101, 102, 56, 103, 104, 105, 106, 107, 108, 109, 110, 93, 35, 111, 112, 113, 114, 36, 37, 115, 39, 40, 41, 42, 116, 117, 118, 19, 119, 120, 293, 294, 295, 296, 297, 298, 299, 300, 301, 302, 303, 304, 305, 306, 307, 308, 309, 310, 311, 312, 313, 314, 315, 316, 317, 318, 319, 320, 321, 322, 323, 324, 982, 983, 984, 985, 986, 987, 1000, 1001, 1002, 1003, 1004, 1005, 1006, 1007, 1008, 1009, 1015, 1016, 1010, 1011, 1012, 1013, 1014] (by decide +kernel) (by decide +kernel)) (goodIn_sub (fun _ h => List.mem_append_left _ (List.mem_append_right _ h)) (by decide +kernel))) (goodIn_sub (fun _ h => List.mem_append_right _ h) (by decide +kernel))
set_option maxRecDepth 20000 in
theorem gL_law_L_take : GoodIn wsL_law (va_wsS RL 115 yL_take wsL_take) := goodIn_app (goodIn_of _ (by decide +kernel)) ggL_law_L_take
set_option maxRecDepth 20000 in
theorem ggL_law_X5_take : GoodIn wsL_law wsX5_take := goodIn_r _ [328, 133, 329, 330, 331, 5, 332, 195, 196, 197, 198, 67, 137, 138, 139, 147, 148, 149, 150, 333, 334, 335, 336, 151, 152, 153, 154, 155, 68, 160, 161, 162, 163, 337, 338, 339, 340, 341, 342, 343, 344, 345, 346, 347, 348, 349, 350, 351, 352, 353, 354, 355, 988, 989, 990, 991, 992, 993, 994, 995, 996, 997, 998, 999] (by decide +kernel) (by decide +kernel)
set_option maxRecDepth 20000 in
theorem gL_law_X5_take : GoodIn wsL_law (wsV RL 117 RX5 yX5_take wsX5_take) := goodIn_app (goodIn_of _ (by decide +kernel)) ggL_law_X5_take
set_option maxRecDepth 20000 in
theorem ggL_law_L_leave : GoodIn wsL_law wsL_leave := goodIn_ca (goodIn_ca (goodIn_r _ [358, 171, 77, 359, 360, 361, 2, 362, 84, 85, 16, 284, 285, 286, 287, 180, 181, 288, 176, 177, 178, 179, 182, 289, 290, 291, 15, 292, 38, 94, 95, 96, 97, 26, 20, 98, 99, 100, 25, 101, 102, 56, 103, 104, 105, 106, 107, 108, 109, 110, 93, 35, 111, 112, 113, 114, 36, 37, 115, 39, 40, 41, 42, 116, 117, 118, 19, 119, 120, 363, 364, 365, 366, 297, 298, 299, 367, 368, 369, 370, 371, 372, 373, 374, 375, 376, 377, 378, 379, 380, 381, 982, 983, 984, 985, 986, 987, 1000, 1001, 1002, 1003, 1004, 1005, 1006, 1007, 1008, 1009, 1015, 1016, 1010, 1011, 1012, 1013, 1014] (by decide +kernel) (by decide +kernel)) (goodIn_sub (fun _ h => List.mem_append_left _ (List.mem_append_right _ h)) (by decide +kernel))) (goodIn_sub (fun _ h => List.mem_append_right _ h) (by decide +kernel))
set_option maxRecDepth 20000 in
theorem gL_law_L_leave : GoodIn wsL_law (va_wsS RL 118 yL_leave wsL_leave) := goodIn_app (goodIn_of _ (by decide +kernel)) ggL_law_L_leave
set_option maxRecDepth 20000 in
theorem ggL_law_X5_leave : GoodIn wsL_law wsX5_leave := goodIn_r _ [385, 133, 329, 330, 331, 5, 332, 195, 196, 197, 198, 67, 137, 138, 139, 147, 148, 149, 150, 333, 334, 335, 336, 151, 152, 153, 154, 155, 68, 160, 161, 162, 163, 386, 387, 388, 389, 390, 391, 392, 393, 988, 989, 990, 991, 992, 993, 994, 995, 996, 997, 998, 999] (by decide +kernel) (by decide +kernel)
set_option maxRecDepth 20000 in
theorem gL_law_X5_leave : GoodIn wsL_law (wsV RL 120 RX5 yX5_leave wsX5_leave) := goodIn_app (goodIn_of _ (by decide +kernel)) ggL_law_X5_leave
set_option maxRecDepth 20000 in
theorem ggL_law_L_seatParty : GoodIn wsL_law wsL_seatParty := goodIn_ca (goodIn_ca (goodIn_r _ [396, 76, 77, 397, 398, 399, 2, 400, 82, 83, 84, 85, 20, 16, 401, 402, 403, 19, 404, 120, 50, 405, 406, 47, 48, 49, 407, 408, 409, 410, 301, 302, 15, 303, 37, 304, 290, 291, 292, 38, 305, 306, 307, 308, 35, 309, 310, 311, 312, 313, 314, 315, 316, 317, 318, 319, 320, 36, 42, 321, 322, 323, 324, 411, 412, 413, 414, 115, 415, 416, 417, 418, 39, 40, 41, 419, 420, 421, 422, 423, 424, 425, 426, 427, 428, 429, 430, 431, 432, 433, 434, 435, 436, 437, 438, 439, 440, 297, 298, 299, 94, 95, 96, 97, 26, 98, 99, 100, 25, 101, 102, 56, 103, 104, 105, 106, 107, 108, 109, 110, 93, 111, 112, 113, 114, 116, 117, 118, 119, 293, 294, 295, 296, 982, 983, 984, 985, 986, 987, 1010, 1011, 1012, 1013, 1014, 1000, 1001, 1002, 1003, 1004, 1005, 1006, 1007, 1008, 1009, 1015, 1016] (by decide +kernel) (by decide +kernel)) (goodIn_sub (fun _ h => List.mem_append_left _ (List.mem_append_left _ (List.mem_append_right _ h))) (by decide +kernel))) (goodIn_sub (fun _ h => List.mem_append_left _ (List.mem_append_right _ h)) (by decide +kernel))
set_option maxRecDepth 20000 in
theorem gL_law_L_seatParty : GoodIn wsL_law (va_wsS RL 121 yL_seatParty wsL_seatParty) := goodIn_app (goodIn_of _ (by decide +kernel)) ggL_law_L_seatParty
