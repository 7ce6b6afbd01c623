set_option maxRecDepth 20000 in
theorem ggL_law_X4_init : GoodIn wsL_law wsX4_init := goodIn_r _ [9, 10, 11, 12, 13, 14, 15, 16, 17, 18, 19, 20, 21, 22, 23, 24, 25, 26, 27, 28, 29, 30, 31, 32, 33, 34, 35, 36, 37, 38, 39, 40, 41, 42, 43, 44, 45, 46, 47, 48, 49, 50, 51, 52, 53, 54, 55, 56, 57, 58, 59, 60, 61, 62, 1000, 1001, 1002, 1003, 1004, 1005, 1006, 1007, 1008, 1009, 982, 983, 984, 985, 986, 987, 1010, 1011, 1012, 1013, 1014, 1015, 1016, 1017, 1018, 1019, 1020, 1021] (by decide +kernel) (by decide +kernel)
set_option maxRecDepth 20000 in
theorem gL_law_X4_init : GoodIn wsL_law (wsX4_init) := ggL_law_X4_init
set_option maxRecDepth 20000 in
theorem ggL_law_X5_init : GoodIn wsL_law wsX5_init := goodIn_r _ [65, 66, 11, 12, 34, 67, 68, 69, 70, 71, 988, 989, 990, 991, 992, 993, 994, 995, 996, 997, 998, 999] (by decide +kernel) (by decide +kernel)
set_option maxRecDepth 20000 in
theorem gL_law_X5_init : GoodIn wsL_law (wsX5_init) := ggL_law_X5_init
set_option maxRecDepth 20000 in
theorem ggL_law_L_addRow : GoodIn wsL_law wsL_addRow := goodIn_ca (goodIn_ca (goodIn_r _ [75, 76, 77, 78, 79, 80, 2, 81, 82, 83, 84, 85, 16, 86, 87, 88, 89, 90, 91, 15, 92, 93, 35, 94, 95, 96, 97, 26, 20, 98, 99, 100, 25, 101, 102, 56, 103, 104, 105, 106, 107, 108, 109, 110, 111, 112, 113, 114, 36, 37, 38, 115, 39, 40, 41, 42, 116, 117, 118, 19, 119, 120, 121, 122, 123, 124, 125, 126, 127, 128, 982, 983, 984, 985, 986, 987, 1000, 1001, 1002, 1003, 1004, 1005, 1006, 1007, 1008, 1009, 1015, 1016, 1010, 1011, 1012, 1013, 1014] (by decide +kernel) (by decide +kernel)) (goodIn_sub (fun _ h => List.mem_append_left _ (List.mem_append_left _ (List.mem_append_right _ h))) (by decide +kernel))) (goodIn_sub (fun _ h => List.mem_append_left _ (List.mem_append_right _ h)) (by decide +kernel))
set_option maxRecDepth 20000 in
theorem gL_law_L_addRow : GoodIn wsL_law (va_wsS RL 89 yL_addRow wsL_addRow) := goodIn_app (goodIn_of _ (by decide +kernel)) ggL_law_L_addRow
set_option maxRecDepth 20000 in
theorem ggL_law_X5_addRow : GoodIn wsL_law wsX5_addRow := goodIn_r _ [132, 133, 134, 135, 5, 136, 137, 138, 139, 140, 141, 142, 143, 144, 145, 146, 67, 147, 148, 149, 150, 151, 152, 153, 154, 155, 68, 156, 157, 158, 159, 160, 161, 162, 163, 988, 989, 990, 991, 992, 993, 994, 995, 996, 997, 998, 999] (by decide +kernel) (by decide +kernel)
set_option maxRecDepth 20000 in
theorem gL_law_X5_addRow : GoodIn wsL_law (wsV RL 94 RX5 yX5_addRow wsX5_addRow) := goodIn_app (goodIn_of _ (by decide +kernel)) ggL_law_X5_addRow
set_option maxRecDepth 20000 in
theorem ggL_law_X5_thrown : GoodIn wsL_law wsX5_thrown := goodIn_r _ [167, 133, 988, 989, 990, 991, 992, 993, 994, 995, 996, 997, 998, 999] (by decide +kernel) (by decide +kernel)
set_option maxRecDepth 20000 in
theorem gL_law_X5_thrown : GoodIn wsL_law (wsV RL 95 RX5 yX5_thrown wsX5_thrown) := goodIn_app (goodIn_of _ (by decide +kernel)) ggL_law_X5_thrown
set_option maxRecDepth 20000 in
theorem ggL_law_L_removeRow : GoodIn wsL_law wsL_removeRow := goodIn_ca (goodIn_r _ [170, 171, 172, 173, 174, 2, 175, 16, 176, 177, 178, 179, 180, 181, 182, 94, 95, 96, 97, 26, 20, 98, 99, 100, 25, 101, 102, 56, 103, 104, 105, 106, 107, 108, 109, 15, 110, 93, 35, 111, 112, 113, 114, 36, 37, 38, 115, 39, 40, 41, 42, 116, 117, 118, 19, 119, 120, 183, 184, 185, 186, 125, 126, 127, 128, 187, 188, 189, 190, 982, 983, 984, 985, 986, 987, 1000, 1001, 1002, 1003, 1004, 1005, 1006, 1007, 1008, 1009, 1015, 1016, 1010, 1011, 1012, 1013, 1014] (by decide +kernel) (by decide +kernel)) (goodIn_sub (fun _ h => List.mem_append_right _ h) (by decide +kernel))
set_option maxRecDepth 20000 in
theorem gL_law_L_removeRow : GoodIn wsL_law (va_wsS RL 98 yL_removeRow wsL_removeRow) := goodIn_app (goodIn_of _ (by decide +kernel)) ggL_law_L_removeRow
set_option maxRecDepth 20000 in
theorem ggL_law_X5_removeRow : GoodIn wsL_law wsX5_removeRow := goodIn_r _ [194, 133, 67, 195, 196, 197, 5, 198, 137, 138, 139, 151, 152, 153, 154, 155, 68, 199, 200, 201, 202, 147, 148, 149, 150, 988, 989, 990, 991, 992, 993, 994, 995, 996, 997, 998, 999] (by decide +kernel) (by decide +kernel)
set_option maxRecDepth 20000 in
theorem gL_law_X5_removeRow : GoodIn wsL_law (wsV RL 101 RX5 yX5_removeRow wsX5_removeRow) := goodIn_app (goodIn_of _ (by decide +kernel)) ggL_law_X5_removeRow
set_option maxRecDepth 20000 in
theorem ggL_law_L_lift : GoodIn wsL_law wsL_lift := goodIn_ca (goodIn_ca (goodIn_r _ [205, 171, 76, 206, 207, 208, 2, 209, 16, 210, 176, 177, 178, 179, 180, 181, 182, 86, 87, 88, 82, 83, 94, 95, 96, 97, 26, 20, 98, 99, 100, 25, 101, 102, 56, 103, 104, 105, 106, 107, 108, 109, 15, 110, 93, 35, 111, 112, 113, 114, 36, 37, 38, 115, 39, 40, 41, 42, 116, 117, 118, 19, 119, 120, 982, 983, 984, 985, 986, 987, 1000, 1001, 1002, 1003, 1004, 1005, 1006, 1007, 1008, 1009, 1015, 1016, 1010, 1011, 1012, 1013, 1014] (by decide +kernel) (by decide +kernel)) (goodIn_sub (fun _ h => List.mem_append_right _ h) (by decide +kernel))) (goodIn_sub (fun _ h => List.mem_append_left _ (List.mem_append_left _ (List.mem_append_right _ h))) (by decide +kernel))
set_option maxRecDepth 20000 in
theorem gL_law_L_lift : GoodIn wsL_law (va_wsS RL 102 yL_lift wsL_lift) := goodIn_app (goodIn_of _ (by decide +kernel)) ggL_law_L_lift
set_option maxRecDepth 20000 in
theorem ggL_law_X5_lift : GoodIn wsL_law wsX5_lift := goodIn_r _ [214, 133, 195, 196, 197, 5, 198, 67, 137, 138, 139, 140, 141, 142, 151, 152, 153, 154, 155, 68, 147, 148, 149, 150, 160, 161, 162, 163, 988, 989, 990, 991, 992, 993, 994, 995, 996, 997, 998, 999] (by decide +kernel) (by decide +kernel)
set_option maxRecDepth 20000 in
theorem gL_law_X5_lift : GoodIn wsL_law (wsV RL 105 RX5 yX5_lift wsX5_lift) := goodIn_app (goodIn_of _ (by decide +kernel)) ggL_law_X5_lift
set_option maxRecDepth 20000 in
theorem ggL_law_L_addColumn : GoodIn wsL_law wsL_addColumn := goodIn_ca (goodIn_ca (goodIn_r _ [217, 76, 77, 218, 219, 220, 2, 221, 82, 83, 84, 85, 16, 222, 94, 95, 96, 97, 26, 20, 98, 99, 100, 25, 101, 102, 56, 103, 104, 105, 106, 107, 108, 109, 15, 110, 93, 35, 111, 112, 113, 114, 36, 37, 38, 115, 39, 40, 41, 42, 116, 117, 118, 19, 119, 120, 223, 224, 225, 226, 982, 983, 984, 985, 986, 987, 1000, 1001, 1002, 1003, 1004, 1005, 1006, 1007, 1008, 1009, 1015, 1016, 1010, 1011, 1012, 1013, 1014] (by decide +kernel) (by decide +kernel)) (goodIn_sub (fun _ h => List.mem_append_left _ (List.mem_append_left _ (List.mem_append_right _ h))) (by decide +kernel))) (goodIn_sub (fun _ h => List.mem_append_left _ (List.mem_append_right _ h)) (by decide +kernel))
set_option maxRecDepth 20000 in
theorem gL_law_L_addColumn : GoodIn wsL_law (va_wsS RL 106 yL_addColumn wsL_addColumn) := goodIn_app (goodIn_of _ (by decide +kernel)) ggL_law_L_addColumn
