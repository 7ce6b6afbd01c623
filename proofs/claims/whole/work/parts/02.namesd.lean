set_option maxRecDepth 20000 in
theorem wsL_in_r35 : ∀ w ∈ wsL_law0_r35, w ∈ lw_tbl := fun w h => (goodIn_r wsL_law0_r35 [61, 1183, 1184, 1186, 62, 1187, 1188, 1190, 63, 1191, 1192, 1194, 64, 1195, 844, 845, 846, 847, 848, 849, 850, 1196, 1197, 1198] (by decide +kernel) (by decide +kernel) w h).1
set_option maxRecDepth 20000 in
theorem wsL_in_r36 : ∀ w ∈ wsL_law0_r36, w ∈ lw_tbl := fun w h => (goodIn_r wsL_law0_r36 [1199, 851, 852, 853, 854, 855, 856, 857, 1200, 1201, 1202, 1203, 858, 859, 860, 861, 862, 863, 864, 444, 446, 14, 447, 448] (by decide +kernel) (by decide +kernel) w h).1
set_option maxRecDepth 20000 in
theorem wsL_in_r37 : ∀ w ∈ wsL_law0_r37, w ∈ lw_tbl := fun w h => (goodIn_r wsL_law0_r37 [1204, 1205, 1206, 1207, 1208, 1210, 65, 1211, 865, 866, 867, 868, 869, 870, 871, 469, 470, 471, 472, 473, 1212, 1213, 1214, 1215] (by decide +kernel) (by decide +kernel) w h).1
set_option maxRecDepth 20000 in
theorem wsL_in_r38 : ∀ w ∈ wsL_law0_r38, w ∈ lw_tbl := fun w h => (goodIn_r wsL_law0_r38 [1216, 1218, 66, 1219, 323, 324, 325, 326, 375, 376, 377, 378, 122, 379, 381, 9, 382, 383, 1220, 1221, 1222, 1223, 1224, 1226] (by decide +kernel) (by decide +kernel) w h).1
set_option maxRecDepth 20000 in
theorem wsL_in_r39 : ∀ w ∈ wsL_law0_r39, w ∈ lw_tbl := fun w h => (goodIn_r wsL_law0_r39 [67, 1227, 1228, 1230, 68, 1231, 384, 385, 386, 387, 388, 390, 10, 391, 1232, 1233, 1234, 1235, 1236, 1238, 69, 1239, 401, 402] (by decide +kernel) (by decide +kernel) w h).1
set_option maxRecDepth 20000 in
theorem wsL_in_r40 : ∀ w ∈ wsL_law0_r40, w ∈ lw_tbl := fun w h => (goodIn_r wsL_law0_r40 [403, 404, 405, 196, 430, 431, 432, 433, 434, 436, 12, 437, 487, 488, 489, 490, 491, 492, 493, 1240, 1241, 1242, 1243, 1244] (by decide +kernel) (by decide +kernel) w h).1
set_option maxRecDepth 20000 in
theorem wsL_in_r41 : ∀ w ∈ wsL_law0_r41, w ∈ lw_tbl := fun w h => (goodIn_r wsL_law0_r41 [889, 1245, 1247, 70, 1248, 1249, 1250, 1252, 71, 1253, 1254, 1255, 88, 1256, 1260, 1262, 1261, 88, 1263, 1257, 1258, 1259] (by decide +kernel) (by decide +kernel) w h).1
set_option maxRecDepth 20000 in
theorem wsL_in_wsX40 : ∀ w ∈ wsX40, w ∈ lw_tbl := by decide +kernel
set_option maxRecDepth 20000 in
theorem wsL_in_wsX50 : ∀ w ∈ wsX50, w ∈ lw_tbl := by decide +kernel
set_option maxRecDepth 20000 in
theorem wsL_in_wsX30 : ∀ w ∈ wsX30, w ∈ lw_tbl := by decide +kernel
set_option maxRecDepth 20000 in
theorem wsL_in_wsX10 : ∀ w ∈ wsX10, w ∈ lw_tbl := by decide +kernel
set_option maxRecDepth 20000 in
theorem wsL_in_wsX20 : ∀ w ∈ wsX20, w ∈ lw_tbl := by decide +kernel
set_option maxRecDepth 20000 in
theorem wsL_in_wsX00 : ∀ w ∈ wsX00, w ∈ lw_tbl := by decide +kernel
set_option maxRecDepth 20000 in
theorem wsL_law_in0 : ∀ w ∈ wsL_law0, w ∈ lw_tbl := fun w h => (List.mem_append.mp h).elim (fun h => (List.mem_append.mp h).elim (fun h => (List.mem_append.mp h).elim (fun h => (List.mem_append.mp h).elim (fun h => (List.mem_append.mp h).elim (fun h => (List.mem_append.mp h).elim (fun h => (List.mem_append.mp h).elim (fun h => (List.mem_append.mp h).elim (wsL_in_r1 w) (fun h => (List.mem_append.mp h).elim (wsL_in_r2 w) (fun h => (List.mem_append.mp h).elim (wsL_in_r3 w) (fun h => (List.mem_append.mp h).elim (wsL_in_r4 w) (fun h => (List.mem_append.mp h).elim (wsL_in_r5 w) (fun h => (List.mem_append.mp h).elim (wsL_in_r6 w) (fun h => (List.mem_append.mp h).elim (wsL_in_r7 w) (fun h => (List.mem_append.mp h).elim (wsL_in_r8 w) (fun h => (List.mem_append.mp h).elim (wsL_in_r9 w) (fun h => (List.mem_append.mp h).elim (wsL_in_r10 w) (fun h => (List.mem_append.mp h).elim (wsL_in_r11 w) (fun h => (List.mem_append.mp h).elim (wsL_in_r12 w) (fun h => (List.mem_append.mp h).elim (wsL_in_r13 w) (fun h => (List.mem_append.mp h).elim (wsL_in_r14 w) (fun h => (List.mem_append.mp h).elim (wsL_in_r15 w) (fun h => (List.mem_append.mp h).elim (wsL_in_r16 w) (fun h => (List.mem_append.mp h).elim (wsL_in_r17 w) (fun h => (List.mem_append.mp h).elim (wsL_in_r18 w) (fun h => (List.mem_append.mp h).elim (wsL_in_r19 w) (fun h => (List.mem_append.mp h).elim (wsL_in_r20 w) (fun h => (List.mem_append.mp h).elim (wsL_in_r21 w) (fun h => (List.mem_append.mp h).elim (wsL_in_r22 w) (fun h => (List.mem_append.mp h).elim (wsL_in_r23 w) (fun h => (List.mem_append.mp h).elim (wsL_in_r24 w) (fun h => (List.mem_append.mp h).elim (wsL_in_r25 w) (fun h => (List.mem_append.mp h).elim (wsL_in_r26 w) (fun h => (List.mem_append.mp h).elim (wsL_in_r27 w) (fun h => (List.mem_append.mp h).elim (wsL_in_r28 w) (fun h => (List.mem_append.mp h).elim (wsL_in_r29 w) (fun h => (List.mem_append.mp h).elim (wsL_in_r30 w) (fun h => (List.mem_append.mp h).elim (wsL_in_r31 w) (fun h => (List.mem_append.mp h).elim (wsL_in_r32 w) (fun h => (List.mem_append.mp h).elim (wsL_in_r33 w) (fun h => (List.mem_append.mp h).elim (wsL_in_r34 w) (fun h => (List.mem_append.mp h).elim (wsL_in_r35 w) (fun h => (List.mem_append.mp h).elim (wsL_in_r36 w) (fun h => (List.mem_append.mp h).elim (wsL_in_r37 w) (fun h => (List.mem_append.mp h).elim (wsL_in_r38 w) (fun h => (List.mem_append.mp h).elim (wsL_in_r39 w) (fun h => (List.mem_append.mp h).elim (wsL_in_r40 w) (fun h => wsL_in_r41 w h))))))))))))))))))))))))))))))))))))))))) (wsL_in_wsX40 w)) (wsL_in_wsX50 w)) (wsL_in_wsX30 w)) (wsL_in_wsX10 w)) (wsL_in_wsX20 w)) (wsL_in_wsX00 w)) (fun h => absurd h List.not_mem_nil)
theorem wsL_law_x0 : ∀ w ∈ (vx_atS RX4 42 "java/lang/IllegalArgumentException" ["java/lang/RuntimeException", "java/lang/Exception"]).filter goodWord, w ∈ lw_tbl := by decide +kernel
theorem wsL_law_x1 : ∀ w ∈ (vx_atS RX4 61 "java/lang/IllegalStateException" ["java/lang/RuntimeException", "java/lang/Exception"]).filter goodWord, w ∈ lw_tbl := by decide +kernel
theorem wsL_law_x2 : ∀ w ∈ (vx_atS RX4 267 "java/lang/IndexOutOfBoundsException" ["java/lang/RuntimeException", "java/lang/Exception"]).filter goodWord, w ∈ lw_tbl := by decide +kernel
theorem wsL_law_in : ∀ w ∈ wsL_law, w ∈ lw_tbl := fun w h => (List.mem_append.mp h).elim (fun h => (List.mem_append.mp h).elim (fun h => (List.mem_append.mp h).elim (fun h => wsL_law_in0 w h) (fun h => wsL_law_x0 w h)) (fun h => wsL_law_x1 w h)) (fun h => wsL_law_x2 w h)
theorem inlX0 : ∀ w ∈ wsX00, w ∈ wsL_law := fun _ h => List.mem_append_left _ (List.mem_append_left _ (List.mem_append_left _ (List.mem_append_left _ (List.mem_append_right _ h))))
theorem inX0 : ∀ w ∈ wsX00, w ∈ lw_tbl := fun w h => wsL_law_in w (inlX0 w h)
theorem inlX1 : ∀ w ∈ wsX10, w ∈ wsL_law := fun _ h => List.mem_append_left _ (List.mem_append_left _ (List.mem_append_left _ (List.mem_append_left _ (List.mem_append_left _ (List.mem_append_left _ (List.mem_append_right _ h))))))
theorem inX1 : ∀ w ∈ wsX10, w ∈ lw_tbl := fun w h => wsL_law_in w (inlX1 w h)
theorem inlX2 : ∀ w ∈ wsX20, w ∈ wsL_law := fun _ h => List.mem_append_left _ (List.mem_append_left _ (List.mem_append_left _ (List.mem_append_left _ (List.mem_append_left _ (List.mem_append_right _ h)))))
theorem inX2 : ∀ w ∈ wsX20, w ∈ lw_tbl := fun w h => wsL_law_in w (inlX2 w h)
theorem inlX3 : ∀ w ∈ wsX30, w ∈ wsL_law := fun _ h => List.mem_append_left _ (List.mem_append_left _ (List.mem_append_left _ (List.mem_append_left _ (List.mem_append_left _ (List.mem_append_left _ (List.mem_append_left _ (List.mem_append_right _ h)))))))
theorem inX3 : ∀ w ∈ wsX30, w ∈ lw_tbl := fun w h => wsL_law_in w (inlX3 w h)
theorem inlX4 : ∀ w ∈ wsX40, w ∈ wsL_law := fun _ h => List.mem_append_left _ (List.mem_append_left _ (List.mem_append_left _ (List.mem_append_left _ (List.mem_append_left _ (List.mem_append_left _ (List.mem_append_left _ (List.mem_append_left _ (List.mem_append_left _ (List.mem_append_right _ h)))))))))
theorem inX4 : ∀ w ∈ wsX40, w ∈ lw_tbl := fun w h => wsL_law_in w (inlX4 w h)
theorem inlX5 : ∀ w ∈ wsX50, w ∈ wsL_law := fun _ h => List.mem_append_left _ (List.mem_append_left _ (List.mem_append_left _ (List.mem_append_left _ (List.mem_append_left _ (List.mem_append_left _ (List.mem_append_left _ (List.mem_append_left _ (List.mem_append_right _ h))))))))
theorem inX5 : ∀ w ∈ wsX50, w ∈ lw_tbl := fun w h => wsL_law_in w (inlX5 w h)
theorem inJxe99ae : ∀ w ∈ wsJxe99ae0, w ∈ lw_tbl := by decide +kernel
theorem inJ6 : ∀ w ∈ wsJ60, w ∈ lw_tbl := by decide +kernel
theorem inJ9 : ∀ w ∈ wsJ90, w ∈ lw_tbl := by decide +kernel
theorem inJ0 : ∀ w ∈ wsJ00, w ∈ lw_tbl := by decide +kernel
theorem inJ10 : ∀ w ∈ wsJ100, w ∈ lw_tbl := by decide +kernel

