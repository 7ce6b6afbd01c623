set_option maxRecDepth 20000 in
theorem ggL_law_X5_addColumn : GoodIn wsL_law wsX5_addColumn := goodIn_r _ [229, 66, 132, 133, 134, 5, 135, 136, 137, 138, 150, 151, 152, 153, 154, 67, 987, 988, 989, 990, 991, 992, 993, 994, 995, 996, 997, 998] (by decide +kernel) (by decide +kernel)
set_option maxRecDepth 20000 in
theorem gL_law_X5_addColumn : GoodIn wsL_law (wsV RL 108 RX5 yX5_addColumn wsX5_addColumn) := goodIn_app (goodIn_of _ (by decide +kernel)) ggL_law_X5_addColumn
set_option maxRecDepth 20000 in
theorem ggL_law_L_removeColumn : GoodIn wsL_law wsL_removeColumn := goodIn_ca (goodIn_r _ [232, 170, 233, 234, 235, 2, 236, 18, 221, 237, 238, 239, 240, 179, 180, 93, 94, 95, 96, 23, 16, 97, 98, 99, 22, 100, 101, 55, 102, 103, 104, 105, 106, 107, 108, 33, 109, 92, 42, 110, 111, 112, 113, 43, 44, 45, 114, 46, 47, 48, 49, 115, 116, 117, 15, 118, 119, 241, 242, 243, 244, 982, 983, 984, 985, 986, 1011, 1012, 1013, 1014, 1015, 1016, 1017, 1018, 1019, 1020, 1004, 1005, 999, 1000, 1001, 1002, 1003] (by decide +kernel) (by decide +kernel)) (goodIn_sub (fun _ h => List.mem_append_right _ h) (by decide +kernel))
set_option maxRecDepth 20000 in
theorem gL_law_L_removeColumn : GoodIn wsL_law (va_wsS RL 109 yL_removeColumn wsL_removeColumn) := goodIn_app (goodIn_of _ (by decide +kernel)) ggL_law_L_removeColumn
set_option maxRecDepth 20000 in
theorem ggL_law_X5_removeColumn : GoodIn wsL_law wsX5_removeColumn := goodIn_r _ [248, 132, 66, 249, 250, 251, 5, 252, 136, 137, 138, 150, 151, 152, 153, 154, 67, 987, 988, 989, 990, 991, 992, 993, 994, 995, 996, 997, 998] (by decide +kernel) (by decide +kernel)
set_option maxRecDepth 20000 in
theorem gL_law_X5_removeColumn : GoodIn wsL_law (wsV RL 111 RX5 yX5_removeColumn wsX5_removeColumn) := goodIn_app (goodIn_of _ (by decide +kernel)) ggL_law_X5_removeColumn
set_option maxRecDepth 20000 in
theorem ggL_law_L_set : GoodIn wsL_law wsL_set := goodIn_ca (goodIn_ca (goodIn_r _ [255, 170, 75, 256, 257, 258, 2, 259, 81, 82, 260, 261, 18, 262, 263, 264, 265, 179, 180, 93, 94, 95, 96, 23, 16, 97, 98, 99, 22, 100, 101, 55, 102, 103, 104, 105, 106, 107, 108, 33, 109, 92, 42, 110, 111, 112, 113, 43, 44, 45, 114, 46, 47, 48, 49, 115, 116, 117, 15, 118, 119, 982, 983, 984, 985, 986, 1011, 1012, 1013, 1014, 1015, 1016, 1017, 1018, 1019, 1020, 1004, 1005, 999, 1000, 1001, 1002, 1003] (by decide +kernel) (by decide +kernel)) (goodIn_sub (fun _ h => List.mem_append_left _ (List.mem_append_left _ (List.mem_append_right _ h))) (by decide +kernel))) (goodIn_sub (fun _ h => List.mem_append_right _ h) (by decide +kernel))
set_option maxRecDepth 20000 in
theorem gL_law_L_set : GoodIn wsL_law (va_wsS RL 112 yL_set wsL_set) := goodIn_app (goodIn_of _ (by decide +kernel)) ggL_law_L_set
set_option maxRecDepth 20000 in
theorem ggL_law_X5_set : GoodIn wsL_law wsX5_set := goodIn_r _ [269, 132, 66, 270, 271, 5, 272, 136, 137, 138, 273, 274, 275, 150, 151, 152, 153, 154, 67, 987, 988, 989, 990, 991, 992, 993, 994, 995, 996, 997, 998] (by decide +kernel) (by decide +kernel)
set_option maxRecDepth 20000 in
theorem gL_law_X5_set : GoodIn wsL_law (wsV RL 114 RX5 yX5_set wsX5_set) := goodIn_app (goodIn_of _ (by decide +kernel)) ggL_law_X5_set
set_option maxRecDepth 20000 in
theorem ggL_law_L_take : GoodIn wsL_law wsL_take := goodIn_ca (goodIn_ca (goodIn_r _ [278, 170, 76, 279, 280, 281, 2, 282, 83, 84, 18, 283, 284, 285, 286, 179, 180, 287, 175, 176, 177, 178, 181, 288, 289, 290, 33, 291, 45, 93, 94, 95, 96, 23, 16, 97, 98, 99, 22, 100, 101, 55, 102, 103, 104, 105, 106, 107, 108, 109, 92, 42, 110, 111, 112, 113, 43, 44, 114, 46, 47, 48, 49, 115, 116, 117, 15, 118, 119, 292, 293, 294, 295, 296, 297, 298, 299, 300, 301, 302, 303, 304, 305, 306, 307, 308, 309, 310, 311, 312, 313, 314, 315, 316, 317, 318, 319, 320, 321, 322, 323, 982, 983, 984, 985, 986, 1011, 1012, 1013, 1014, 1015, 1016, 1017, 1018, 1019, 1020, 1004, 1005, 999, 1000, 1001, 1002, 1003] (by decide +kernel) (by decide +kernel)) (goodIn_sub (fun _ h => List.mem_append_left _ (List.mem_append_right _ h)) (by decide +kernel))) (goodIn_sub (fun _ h => List.mem_append_right _ h) (by decide +kernel))
set_option maxRecDepth 20000 in
theorem gL_law_L_take : GoodIn wsL_law (va_wsS RL 115 yL_take wsL_take) := goodIn_app (goodIn_of _ (by decide +kernel)) ggL_law_L_take
set_option maxRecDepth 20000 in
theorem ggL_law_X5_take : GoodIn wsL_law wsX5_take := goodIn_r _ [327, 132, 328, 329, 330, 5, 331, 194, 195, 196, 197, 66, 136, 137, 138, 146, 147, 148, 149, 332, 333, 334, 335, 150, 151, 152, 153, 154, 67, 159, 160, 161, 162, 336, 337, 338, 339, 340, 341, 342, 343, 344, 345, 346, 347, 348, 349, 350, 351, 352, 353, 354, 987, 988, 989, 990, 991, 992, 993, 994, 995, 996, 997, 998] (by decide +kernel) (by decide +kernel)
set_option maxRecDepth 20000 in
theorem gL_law_X5_take : GoodIn wsL_law (wsV RL 117 RX5 yX5_take wsX5_take) := goodIn_app (goodIn_of _ (by decide +kernel)) ggL_law_X5_take
set_option maxRecDepth 20000 in
theorem ggL_law_L_leave : GoodIn wsL_law wsL_leave := goodIn_ca (goodIn_ca (goodIn_r _ [357, 170, 76, 358, 359, 360, 2, 361, 83, 84, 18, 283, 284, 285, 286, 179, 180, 287, 175, 176, 177, 178, 181, 288, 289, 290, 33, 291, 45, 93, 94, 95, 96, 23, 16, 97, 98, 99, 22, 100, 101, 55, 102, 103, 104, 105, 106, 107, 108, 109, 92, 42, 110, 111, 112, 113, 43, 44, 114, 46, 47, 48, 49, 115, 116, 117, 15, 118, 119, 362, 363, 364, 365, 296, 297, 298, 366, 367, 368, 369, 370, 371, 372, 373, 374, 375, 376, 377, 378, 379, 380, 982, 983, 984, 985, 986, 1011, 1012, 1013, 1014, 1015, 1016, 1017, 1018, 1019, 1020, 1004, 1005, 999, 1000, 1001, 1002, 1003] (by decide +kernel) (by decide +kernel)) (goodIn_sub (fun _ h => List.mem_append_left _ (List.mem_append_right _ h)) (by decide +kernel))) (goodIn_sub (fun _ h => List.mem_append_right _ h) (by decide +kernel))
set_option maxRecDepth 20000 in
theorem gL_law_L_leave : GoodIn wsL_law (va_wsS RL 118 yL_leave wsL_leave) := goodIn_app (goodIn_of _ (by decide +kernel)) ggL_law_L_leave
set_option maxRecDepth 20000 in
theorem ggL_law_X5_leave : GoodIn wsL_law wsX5_leave := goodIn_r _ [384, 132, 328, 329, 330, 5, 331, 194, 195, 196, 197, 66, 136, 137, 138, 146, 147, 148, 149, 332, 333, 334, 335, 150, 151, 152, 153, 154, 67, 159, 160, 161, 162, 385, 386, 387, 388, 389, 390, 391, 392, 987, 988, 989, 990, 991, 992, 993, 994, 995, 996, 997, 998] (by decide +kernel) (by decide +kernel)
set_option maxRecDepth 20000 in
theorem gL_law_X5_leave : GoodIn wsL_law (wsV RL 120 RX5 yX5_leave wsX5_leave) := goodIn_app (goodIn_of _ (by decide +kernel)) ggL_law_X5_leave
set_option maxRecDepth 20000 in
theorem ggL_law_L_seatParty : GoodIn wsL_law wsL_seatParty := goodIn_ca (goodIn_ca (goodIn_r _ [395, 75, 76, 396, 397, 398, 2, 399, 81, 82, 83, 84, 16, 18, 400, 401, 402, 15, 403, 119, 34, 404, 405, 36, 37, 38, 406, 407, 408, 409, 300, 301, 33, 302, 44, 303, 289, 290, 291, 45, 304, 305, 306, 307, 42, 308, 309, 310, 311, 312, 313, 314, 315, 316, 317, 318, 319, 43, 49, 320, 321, 322, 323, 410, 411, 412, 413, 114, 414, 415, 416, 417, 46, 47, 48, 418, 419, 420, 421, 422, 423, 424, 425, 426, 427, 428, 429, 430, 431, 432, 433, 434, 435, 436, 437, 438, 439, 296, 297, 298, 93, 94, 95, 96, 23, 97, 98, 99, 22, 100, 101, 55, 102, 103, 104, 105, 106, 107, 108, 109, 92, 110, 111, 112, 113, 115, 116, 117, 118, 292, 293, 294, 295, 982, 983, 984, 985, 986, 999, 1000, 1001, 1002, 1003, 1011, 1012, 1013, 1014, 1015, 1016, 1017, 1018, 1019, 1020, 1004, 1005] (by decide +kernel) (by decide +kernel)) (goodIn_sub (fun _ h => List.mem_append_left _ (List.mem_append_left _ (List.mem_append_right _ h))) (by decide +kernel))) (goodIn_sub (fun _ h => List.mem_append_left _ (List.mem_append_right _ h)) (by decide +kernel))
set_option maxRecDepth 20000 in
theorem gL_law_L_seatParty : GoodIn wsL_law (va_wsS RL 121 yL_seatParty wsL_seatParty) := goodIn_app (goodIn_of _ (by decide +kernel)) ggL_law_L_seatParty
