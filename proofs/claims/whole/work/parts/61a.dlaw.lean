set_option maxRecDepth 20000 in
theorem ggL_law_X4_init : GoodIn wsL_law wsX4_init := goodIn_r _ [9, 10, 11, 12, 13, 14, 15, 16, 17, 18, 19, 20, 21, 22, 23, 24, 25, 26, 27, 28, 29, 30, 31, 32, 33, 34, 35, 36, 37, 38, 39, 40, 41, 42, 43, 44, 45, 46, 47, 48, 49, 50, 51, 52, 53, 54, 55, 56, 57, 58, 59, 60, 61, 999, 1000, 1001, 1002, 1003, 982, 983, 984, 985, 986, 1004, 1005, 1006, 1007, 1008, 1009, 1010, 1011, 1012, 1013, 1014, 1015, 1016, 1017, 1018, 1019, 1020] (by decide +kernel) (by decide +kernel)
set_option maxRecDepth 20000 in
theorem gL_law_X4_init : GoodIn wsL_law (wsX4_init) := ggL_law_X4_init
set_option maxRecDepth 20000 in
theorem ggL_law_X5_init : GoodIn wsL_law wsX5_init := goodIn_r _ [64, 65, 11, 12, 35, 66, 67, 68, 69, 70, 987, 988, 989, 990, 991, 992, 993, 994, 995, 996, 997, 998] (by decide +kernel) (by decide +kernel)
set_option maxRecDepth 20000 in
theorem gL_law_X5_init : GoodIn wsL_law (wsX5_init) := ggL_law_X5_init
set_option maxRecDepth 20000 in
theorem ggL_law_L_addRow : GoodIn wsL_law wsL_addRow := goodIn_ca (goodIn_ca (goodIn_r _ [74, 75, 76, 77, 78, 79, 2, 80, 81, 82, 83, 84, 18, 85, 86, 87, 88, 89, 90, 33, 91, 92, 42, 93, 94, 95, 96, 23, 16, 97, 98, 99, 22, 100, 101, 55, 102, 103, 104, 105, 106, 107, 108, 109, 110, 111, 112, 113, 43, 44, 45, 114, 46, 47, 48, 49, 115, 116, 117, 15, 118, 119, 120, 121, 122, 123, 124, 125, 126, 127, 982, 983, 984, 985, 986, 1011, 1012, 1013, 1014, 1015, 1016, 1017, 1018, 1019, 1020, 1004, 1005, 999, 1000, 1001, 1002, 1003] (by decide +kernel) (by decide +kernel)) (goodIn_sub (fun _ h => List.mem_append_left _ (List.mem_append_left _ (List.mem_append_right _ h))) (by decide +kernel))) (goodIn_sub (fun _ h => List.mem_append_left _ (List.mem_append_right _ h)) (by decide +kernel))
set_option maxRecDepth 20000 in
theorem gL_law_L_addRow : GoodIn wsL_law (va_wsS RL 89 yL_addRow wsL_addRow) := goodIn_app (goodIn_of _ (by decide +kernel)) ggL_law_L_addRow
set_option maxRecDepth 20000 in
theorem ggL_law_X5_addRow : GoodIn wsL_law wsX5_addRow := goodIn_r _ [131, 132, 133, 134, 5, 135, 136, 137, 138, 139, 140, 141, 142, 143, 144, 145, 66, 146, 147, 148, 149, 150, 151, 152, 153, 154, 67, 155, 156, 157, 158, 159, 160, 161, 162, 987, 988, 989, 990, 991, 992, 993, 994, 995, 996, 997, 998] (by decide +kernel) (by decide +kernel)
set_option maxRecDepth 20000 in
theorem gL_law_X5_addRow : GoodIn wsL_law (wsV RL 94 RX5 yX5_addRow wsX5_addRow) := goodIn_app (goodIn_of _ (by decide +kernel)) ggL_law_X5_addRow
set_option maxRecDepth 20000 in
theorem ggL_law_X5_thrown : GoodIn wsL_law wsX5_thrown := goodIn_r _ [166, 132, 987, 988, 989, 990, 991, 992, 993, 994, 995, 996, 997, 998] (by decide +kernel) (by decide +kernel)
set_option maxRecDepth 20000 in
theorem gL_law_X5_thrown : GoodIn wsL_law (wsV RL 95 RX5 yX5_thrown wsX5_thrown) := goodIn_app (goodIn_of _ (by decide +kernel)) ggL_law_X5_thrown
set_option maxRecDepth 20000 in
theorem ggL_law_L_removeRow : GoodIn wsL_law wsL_removeRow := goodIn_ca (goodIn_r _ [169, 170, 171, 172, 173, 2, 174, 18, 175, 176, 177, 178, 179, 180, 181, 93, 94, 95, 96, 23, 16, 97, 98, 99, 22, 100, 101, 55, 102, 103, 104, 105, 106, 107, 108, 33, 109, 92, 42, 110, 111, 112, 113, 43, 44, 45, 114, 46, 47, 48, 49, 115, 116, 117, 15, 118, 119, 182, 183, 184, 185, 124, 125, 126, 127, 186, 187, 188, 189, 982, 983, 984, 985, 986, 1011, 1012, 1013, 1014, 1015, 1016, 1017, 1018, 1019, 1020, 1004, 1005, 999, 1000, 1001, 1002, 1003] (by decide +kernel) (by decide +kernel)) (goodIn_sub (fun _ h => List.mem_append_right _ h) (by decide +kernel))
set_option maxRecDepth 20000 in
theorem gL_law_L_removeRow : GoodIn wsL_law (va_wsS RL 98 yL_removeRow wsL_removeRow) := goodIn_app (goodIn_of _ (by decide +kernel)) ggL_law_L_removeRow
set_option maxRecDepth 20000 in
theorem ggL_law_X5_removeRow : GoodIn wsL_law wsX5_removeRow := goodIn_r _ [193, 132, 66, 194, 195, 196, 5, 197, 136, 137, 138, 150, 151, 152, 153, 154, 67, 198, 199, 200, 201, 146, 147, 148, 149, 987, 988, 989, 990, 991, 992, 993, 994, 995, 996, 997, 998] (by decide +kernel) (by decide +kernel)
set_option maxRecDepth 20000 in
theorem gL_law_X5_removeRow : GoodIn wsL_law (wsV RL 101 RX5 yX5_removeRow wsX5_removeRow) := goodIn_app (goodIn_of _ (by decide +kernel)) ggL_law_X5_removeRow
set_option maxRecDepth 20000 in
theorem ggL_law_L_lift : GoodIn wsL_law wsL_lift := goodIn_ca (goodIn_ca (goodIn_r _ [204, 170, 75, 205, 206, 207, 2, 208, 18, 209, 175, 176, 177, 178, 179, 180, 181, 85, 86, 87, 81, 82, 93, 94, 95, 96, 23, 16, 97, 98, 99, 22, 100, 101, 55, 102, 103, 104, 105, 106, 107, 108, 33, 109, 92, 42, 110, 111, 112, 113, 43, 44, 45, 114, 46, 47, 48, 49, 115, 116, 117, 15, 118, 119, 982, 983, 984, 985, 986, 1011, 1012, 1013, 1014, 1015, 1016, 1017, 1018, 1019, 1020, 1004, 1005, 999, 1000, 1001, 1002, 1003] (by decide +kernel) (by decide +kernel)) (goodIn_sub (fun _ h => List.mem_append_right _ h) (by decide +kernel))) (goodIn_sub (fun _ h => List.mem_append_left _ (List.mem_append_left _ (List.mem_append_right _ h))) (by decide +kernel))
set_option maxRecDepth 20000 in
theorem gL_law_L_lift : GoodIn wsL_law (va_wsS RL 102 yL_lift wsL_lift) := goodIn_app (goodIn_of _ (by decide +kernel)) ggL_law_L_lift
set_option maxRecDepth 20000 in
theorem ggL_law_X5_lift : GoodIn wsL_law wsX5_lift := goodIn_r _ [213, 132, 194, 195, 196, 5, 197, 66, 136, 137, 138, 139, 140, 141, 150, 151, 152, 153, 154, 67, 146, 147, 148, 149, 159, 160, 161, 162, 987, 988, 989, 990, 991, 992, 993, 994, 995, 996, 997, 998] (by decide +kernel) (by decide +kernel)
set_option maxRecDepth 20000 in
theorem gL_law_X5_lift : GoodIn wsL_law (wsV RL 105 RX5 yX5_lift wsX5_lift) := goodIn_app (goodIn_of _ (by decide +kernel)) ggL_law_X5_lift
set_option maxRecDepth 20000 in
theorem ggL_law_L_addColumn : GoodIn wsL_law wsL_addColumn := goodIn_ca (goodIn_ca (goodIn_r _ [216, 75, 76, 217, 218, 219, 2, 220, 81, 82, 83, 84, 18, 221, 93, 94, 95, 96, 23, 16, 97, 98, 99, 22, 100, 101, 55, 102, 103, 104, 105, 106, 107, 108, 33, 109, 92, 42, 110, 111, 112, 113, 43, 44, 45, 114, 46, 47, 48, 49, 115, 116, 117, 15, 118, 119, 222, 223, 224, 225, 982, 983, 984, 985, 986, 1011, 1012, 1013, 1014, 1015, 1016, 1017, 1018, 1019, 1020, 1004, 1005, 999, 1000, 1001, 1002, 1003] (by decide +kernel) (by decide +kernel)) (goodIn_sub (fun _ h => List.mem_append_left _ (List.mem_append_left _ (List.mem_append_right _ h))) (by decide +kernel))) (goodIn_sub (fun _ h => List.mem_append_left _ (List.mem_append_right _ h)) (by decide +kernel))
set_option maxRecDepth 20000 in
theorem gL_law_L_addColumn : GoodIn wsL_law (va_wsS RL 106 yL_addColumn wsL_addColumn) := goodIn_app (goodIn_of _ (by decide +kernel)) ggL_law_L_addColumn
