set_option maxRecDepth 20000 in
theorem ggX4_init_X3_init : GoodIn wsX4_init wsX3_init := goodIn_r _ [20, 21, 2, 3, 22, 23, 24, 25, 26, 27, 28, 29, 30, 31, 32, 33, 34, 35, 36, 37, 38, 39, 40, 70, 71, 72, 73, 74, 75, 76, 77, 78, 79, 53, 54, 55, 56, 57] (by decide +kernel) (by decide +kernel)
set_option maxRecDepth 20000 in
theorem gX4_init_X3_init_n9 : GoodIn wsX4_init (wsX3_init) := ggX4_init_X3_init
set_option maxRecDepth 20000 in
theorem ggX4_init_X1_init : GoodIn wsX4_init wsX1_init := goodIn_r _ [43, 44, 2, 3, 45, 46, 23, 24, 30, 31, 32, 26, 33, 34, 35, 36, 37, 38, 39, 40, 63, 64, 70, 71, 72, 73, 74, 75, 76, 77, 78, 79] (by decide +kernel) (by decide +kernel)
set_option maxRecDepth 20000 in
theorem gX4_init_X1_init : GoodIn wsX4_init (wsX1_init) := ggX4_init_X1_init
set_option maxRecDepth 20000 in
theorem ggX4_init_X2_init : GoodIn wsX4_init wsX2_init := goodIn_r _ [48, 49, 2, 3, 50, 51, 26, 52, 65, 66, 67, 68, 69] (by decide +kernel) (by decide +kernel)
set_option maxRecDepth 20000 in
theorem gX4_init_X2_init_n33 : GoodIn wsX4_init (wsX2_init) := ggX4_init_X2_init
theorem dX4_init_0 : decode cX4_init 0 = .ok (.aload_n 0, 1) := by decide +kernel
theorem dX4_init_1 : decode cX4_init 1 = .ok (.invokespecial 1, 3) := by decide +kernel
theorem dX4_init_4 : decode cX4_init 4 = .ok (.aload_n 0, 1) := by decide +kernel
theorem dX4_init_5 : decode cX4_init 5 = .ok (.new 7, 3) := by decide +kernel
theorem dX4_init_8 : decode cX4_init 8 = .ok (.dup, 1) := by decide +kernel
theorem dX4_init_9 : decode cX4_init 9 = .ok (.invokespecial 9, 3) := by decide +kernel
theorem dX4_init_12 : decode cX4_init 12 = .ok (.putfield 10, 3) := by decide +kernel
theorem dX4_init_15 : decode cX4_init 15 = .ok (.aload_n 0, 1) := by decide +kernel
theorem dX4_init_16 : decode cX4_init 16 = .ok (.aload_n 0, 1) := by decide +kernel
theorem dX4_init_17 : decode cX4_init 17 = .ok (.getfield 10, 3) := by decide +kernel
theorem dX4_init_20 : decode cX4_init 20 = .ok (.getfield 16, 3) := by decide +kernel
theorem dX4_init_23 : decode cX4_init 23 = .ok (.putfield 20, 3) := by decide +kernel
theorem dX4_init_26 : decode cX4_init 26 = .ok (.aload_n 0, 1) := by decide +kernel
theorem dX4_init_27 : decode cX4_init 27 = .ok (.new 7, 3) := by decide +kernel
theorem dX4_init_30 : decode cX4_init 30 = .ok (.dup, 1) := by decide +kernel
theorem dX4_init_31 : decode cX4_init 31 = .ok (.invokespecial 9, 3) := by decide +kernel
theorem dX4_init_34 : decode cX4_init 34 = .ok (.putfield 21, 3) := by decide +kernel
theorem dX4_init_37 : decode cX4_init 37 = .ok (.aload_n 0, 1) := by decide +kernel
theorem dX4_init_38 : decode cX4_init 38 = .ok (.new 24, 3) := by decide +kernel
theorem dX4_init_41 : decode cX4_init 41 = .ok (.dup, 1) := by decide +kernel
theorem dX4_init_42 : decode cX4_init 42 = .ok (.invokespecial 26, 3) := by decide +kernel
theorem dX4_init_45 : decode cX4_init 45 = .ok (.putfield 27, 3) := by decide +kernel
theorem dX4_init_48 : decode cX4_init 48 = .ok (.aload_n 0, 1) := by decide +kernel
theorem dX4_init_49 : decode cX4_init 49 = .ok (.new 31, 3) := by decide +kernel
theorem dX4_init_52 : decode cX4_init 52 = .ok (.dup, 1) := by decide +kernel
theorem dX4_init_53 : decode cX4_init 53 = .ok (.invokespecial 33, 3) := by decide +kernel
theorem dX4_init_56 : decode cX4_init 56 = .ok (.putfield 34, 3) := by decide +kernel
theorem dX4_init_59 : decode cX4_init 59 = .ok (.return_, 1) := by decide +kernel
set_option maxRecDepth 20000 in
theorem ggX4_addRow_X4_checkHeight : GoodIn wsX4_addRow wsX4_checkHeight := goodIn_ca (goodIn_r _ [9, 1, 2] (by decide +kernel) (by decide +kernel)) (goodIn_sub (fun _ h => List.mem_cons_of_mem _ (List.mem_append_left _ (List.mem_append_right _ h))) (by decide +kernel))
set_option maxRecDepth 20000 in
theorem gX4_addRow_X4_checkHeight : GoodIn wsX4_addRow (va_wsS RX4 45 yX4_checkHeight wsX4_checkHeight) := goodIn_app (goodIn_of _ (by decide +kernel)) ggX4_addRow_X4_checkHeight
set_option maxRecDepth 20000 in
theorem ggX4_addRow_X0_hasRoomForRow : GoodIn wsX4_addRow wsX0_hasRoomForRow := goodIn_r _ [14, 15, 16, 69, 70, 71, 72, 73, 74, 75, 76, 77, 78] (by decide +kernel) (by decide +kernel)
set_option maxRecDepth 20000 in
theorem gX4_addRow_X0_hasRoomForRow : GoodIn wsX4_addRow (wsV RX4 51 RX0 yX0_hasRoomForRow wsX0_hasRoomForRow) := goodIn_app (goodIn_of _ (by decide +kernel)) ggX4_addRow_X0_hasRoomForRow
set_option maxRecDepth 20000 in
theorem ggX4_addRow_X4_saveState : GoodIn wsX4_addRow wsX4_saveState := goodIn_r _ [20, 21, 5, 22, 23, 24, 25, 26, 27, 28, 29, 30, 31, 32, 33, 34, 35, 36, 13, 37, 15, 16, 38, 39, 40, 41, 42, 43, 44, 45, 46, 47, 48, 49, 50, 51, 52, 53, 54, 55, 64, 65, 66, 67, 68, 79, 80, 69, 70, 71, 72, 73, 74, 75, 76, 77, 78, 81, 82, 83, 84, 85] (by decide +kernel) (by decide +kernel)
set_option maxRecDepth 20000 in
theorem gX4_addRow_X4_saveState : GoodIn wsX4_addRow (wsV RX4 62 RX4 yX4_saveState wsX4_saveState) := goodIn_app (goodIn_of _ (by decide +kernel)) ggX4_addRow_X4_saveState
set_option maxRecDepth 20000 in
theorem ggX4_addRow_X0_insertRow : GoodIn wsX4_addRow wsX0_insertRow := goodIn_r _ [59, 15, 16, 42, 43, 44, 60, 61, 62, 13, 63, 69, 70, 71, 72, 73, 74, 75, 76, 77, 78] (by decide +kernel) (by decide +kernel)
set_option maxRecDepth 20000 in
theorem gX4_addRow_X0_insertRow : GoodIn wsX4_addRow (wsV RX4 65 RX0 yX0_insertRow wsX0_insertRow) := goodIn_app (goodIn_of _ (by decide +kernel)) ggX4_addRow_X0_insertRow
theorem dX4_addRow_0 : decode cX4_addRow 0 = .ok (.iload_n 1, 1) := by decide +kernel
theorem dX4_addRow_1 : decode cX4_addRow 1 = .ok (.iconst 1, 1) := by decide +kernel
theorem dX4_addRow_2 : decode cX4_addRow 2 = .ok (.if_icmp .lt 10, 3) := by decide +kernel
theorem dX4_addRow_5 : decode cX4_addRow 5 = .ok (.iload_n 1, 1) := by decide +kernel
theorem dX4_addRow_6 : decode cX4_addRow 6 = .ok (.sipush 999, 3) := by decide +kernel
theorem dX4_addRow_9 : decode cX4_addRow 9 = .ok (.if_icmp .le 13, 3) := by decide +kernel
theorem dX4_addRow_12 : decode cX4_addRow 12 = .ok (.new 38, 3) := by decide +kernel
theorem dX4_addRow_15 : decode cX4_addRow 15 = .ok (.dup, 1) := by decide +kernel
theorem dX4_addRow_16 : decode cX4_addRow 16 = .ok (.ldc 40, 2) := by decide +kernel
theorem dX4_addRow_18 : decode cX4_addRow 18 = .ok (.invokespecial 42, 3) := by decide +kernel
theorem dX4_addRow_21 : decode cX4_addRow 21 = .ok (.athrow, 1) := by decide +kernel
theorem dX4_addRow_22 : decode cX4_addRow 22 = .ok (.iload_n 2, 1) := by decide +kernel
theorem dX4_addRow_23 : decode cX4_addRow 23 = .ok (.invokestatic 45, 3) := by decide +kernel
theorem dX4_addRow_26 : decode cX4_addRow 26 = .ok (.iload_n 3, 1) := by decide +kernel
theorem dX4_addRow_27 : decode cX4_addRow 27 = .ok (.iconst 1, 1) := by decide +kernel
theorem dX4_addRow_28 : decode cX4_addRow 28 = .ok (.if_icmp .lt 9, 3) := by decide +kernel
theorem dX4_addRow_31 : decode cX4_addRow 31 = .ok (.iload_n 3, 1) := by decide +kernel
theorem dX4_addRow_32 : decode cX4_addRow 32 = .ok (.bipush 12, 2) := by decide +kernel
theorem dX4_addRow_34 : decode cX4_addRow 34 = .ok (.if_icmp .le 13, 3) := by decide +kernel
theorem dX4_addRow_37 : decode cX4_addRow 37 = .ok (.new 38, 3) := by decide +kernel
theorem dX4_addRow_40 : decode cX4_addRow 40 = .ok (.dup, 1) := by decide +kernel
theorem dX4_addRow_41 : decode cX4_addRow 41 = .ok (.ldc 49, 2) := by decide +kernel
theorem dX4_addRow_43 : decode cX4_addRow 43 = .ok (.invokespecial 42, 3) := by decide +kernel
theorem dX4_addRow_46 : decode cX4_addRow 46 = .ok (.athrow, 1) := by decide +kernel
theorem dX4_addRow_47 : decode cX4_addRow 47 = .ok (.aload_n 0, 1) := by decide +kernel
theorem dX4_addRow_48 : decode cX4_addRow 48 = .ok (.getfield 20, 3) := by decide +kernel
theorem dX4_addRow_51 : decode cX4_addRow 51 = .ok (.iload_n 1, 1) := by decide +kernel
theorem dX4_addRow_52 : decode cX4_addRow 52 = .ok (.invokevirtual 51, 3) := by decide +kernel
theorem dX4_addRow_55 : decode cX4_addRow 55 = .ok (.ifCond .ne 13, 3) := by decide +kernel
theorem dX4_addRow_58 : decode cX4_addRow 58 = .ok (.new 57, 3) := by decide +kernel
theorem dX4_addRow_61 : decode cX4_addRow 61 = .ok (.dup, 1) := by decide +kernel
theorem dX4_addRow_62 : decode cX4_addRow 62 = .ok (.ldc 59, 2) := by decide +kernel
theorem dX4_addRow_64 : decode cX4_addRow 64 = .ok (.invokespecial 61, 3) := by decide +kernel
theorem dX4_addRow_67 : decode cX4_addRow 67 = .ok (.athrow, 1) := by decide +kernel
theorem dX4_addRow_68 : decode cX4_addRow 68 = .ok (.aload_n 0, 1) := by decide +kernel
theorem dX4_addRow_69 : decode cX4_addRow 69 = .ok (.invokevirtual 62, 3) := by decide +kernel
theorem dX4_addRow_72 : decode cX4_addRow 72 = .ok (.aload_n 0, 1) := by decide +kernel
theorem dX4_addRow_73 : decode cX4_addRow 73 = .ok (.getfield 20, 3) := by decide +kernel
theorem dX4_addRow_76 : decode cX4_addRow 76 = .ok (.iload_n 1, 1) := by decide +kernel
theorem dX4_addRow_77 : decode cX4_addRow 77 = .ok (.iload_n 2, 1) := by decide +kernel
theorem dX4_addRow_78 : decode cX4_addRow 78 = .ok (.iload_n 3, 1) := by decide +kernel
theorem dX4_addRow_79 : decode cX4_addRow 79 = .ok (.invokevirtual 65, 3) := by decide +kernel
theorem dX4_addRow_82 : decode cX4_addRow 82 = .ok (.ireturn, 1) := by decide +kernel
set_option maxRecDepth 20000 in
theorem ggX4_removeRow_X4_checkRow : GoodIn wsX4_removeRow wsX4_checkRow := goodIn_ca (goodIn_r _ [6, 7, 8, 1, 9, 64, 65, 66, 67, 68, 69, 70, 71, 72, 73, 74, 75, 76, 77, 78] (by decide +kernel) (by decide +kernel)) (goodIn_sub (fun _ h => List.mem_cons_of_mem _ (List.mem_append_right _ h)) (by decide +kernel))
set_option maxRecDepth 20000 in
theorem gX4_removeRow_X4_checkRow : GoodIn wsX4_removeRow (wsV RX4 69 RX4 yX4_checkRow wsX4_checkRow) := goodIn_app (goodIn_of _ (by decide +kernel)) ggX4_removeRow_X4_checkRow
set_option maxRecDepth 20000 in
theorem ggX4_removeRow_X4_saveState : GoodIn wsX4_removeRow wsX4_saveState := goodIn_r _ [13, 14, 1, 15, 16, 17, 18, 19, 20, 21, 22, 23, 24, 25, 26, 27, 28, 29, 30, 31, 32, 33, 34, 35, 36, 37, 38, 39, 40, 41, 42, 43, 44, 45, 46, 47, 48, 49, 50, 51, 64, 65, 66, 67, 68, 79, 80, 69, 70, 71, 72, 73, 74, 75, 76, 77, 78, 81, 82, 83, 84, 85] (by decide +kernel) (by decide +kernel)
set_option maxRecDepth 20000 in
theorem gX4_removeRow_X4_saveState : GoodIn wsX4_removeRow (wsV RX4 62 RX4 yX4_saveState wsX4_saveState) := goodIn_app (goodIn_of _ (by decide +kernel)) ggX4_removeRow_X4_saveState
set_option maxRecDepth 20000 in
theorem ggX4_removeRow_X0_deleteRow : GoodIn wsX4_removeRow wsX0_deleteRow := goodIn_r _ [55, 32, 56, 57, 58, 30, 59, 33, 38, 39, 40, 69, 70, 71, 72, 73, 74, 75, 76, 77, 78] (by decide +kernel) (by decide +kernel)
set_option maxRecDepth 20000 in
theorem gX4_removeRow_X0_deleteRow : GoodIn wsX4_removeRow (wsV RX4 72 RX0 yX0_deleteRow wsX0_deleteRow) := goodIn_app (goodIn_of _ (by decide +kernel)) ggX4_removeRow_X0_deleteRow
set_option maxRecDepth 20000 in
theorem ggX4_removeRow_X0_seatsInAll : GoodIn wsX4_removeRow wsX0_seatsInAll := goodIn_r _ [63, 32, 39, 69, 70, 71, 72, 73, 74, 75, 76, 77, 78] (by decide +kernel) (by decide +kernel)
set_option maxRecDepth 20000 in
theorem gX4_removeRow_X0_seatsInAll : GoodIn wsX4_removeRow (wsV RX4 75 RX0 yX0_seatsInAll wsX0_seatsInAll) := goodIn_app (goodIn_of _ (by decide +kernel)) ggX4_removeRow_X0_seatsInAll
theorem dX4_removeRow_0 : decode cX4_removeRow 0 = .ok (.aload_n 0, 1) := by decide +kernel
theorem dX4_removeRow_1 : decode cX4_removeRow 1 = .ok (.iload_n 1, 1) := by decide +kernel
theorem dX4_removeRow_2 : decode cX4_removeRow 2 = .ok (.invokevirtual 69, 3) := by decide +kernel
theorem dX4_removeRow_5 : decode cX4_removeRow 5 = .ok (.aload_n 0, 1) := by decide +kernel
theorem dX4_removeRow_6 : decode cX4_removeRow 6 = .ok (.invokevirtual 62, 3) := by decide +kernel
theorem dX4_removeRow_9 : decode cX4_removeRow 9 = .ok (.aload_n 0, 1) := by decide +kernel
theorem dX4_removeRow_10 : decode cX4_removeRow 10 = .ok (.getfield 20, 3) := by decide +kernel
theorem dX4_removeRow_13 : decode cX4_removeRow 13 = .ok (.iload_n 1, 1) := by decide +kernel
theorem dX4_removeRow_14 : decode cX4_removeRow 14 = .ok (.invokevirtual 72, 3) := by decide +kernel
theorem dX4_removeRow_17 : decode cX4_removeRow 17 = .ok (.aload_n 0, 1) := by decide +kernel
theorem dX4_removeRow_18 : decode cX4_removeRow 18 = .ok (.getfield 20, 3) := by decide +kernel
theorem dX4_removeRow_21 : decode cX4_removeRow 21 = .ok (.invokevirtual 75, 3) := by decide +kernel
theorem dX4_removeRow_24 : decode cX4_removeRow 24 = .ok (.ireturn, 1) := by decide +kernel
set_option maxRecDepth 20000 in
theorem ggX4_lift_X4_checkRow : GoodIn wsX4_lift wsX4_checkRow := goodIn_ca (goodIn_r _ [7, 8, 9, 1, 10, 58, 59, 60, 61, 62, 63, 64, 65, 66, 67, 68, 69, 70, 71, 72] (by decide +kernel) (by decide +kernel)) (goodIn_sub (fun _ h => List.mem_cons_of_mem _ (List.mem_append_left _ (List.mem_append_right _ h))) (by decide +kernel))
set_option maxRecDepth 20000 in
theorem gX4_lift_X4_checkRow : GoodIn wsX4_lift (wsV RX4 69 RX4 yX4_checkRow wsX4_checkRow) := goodIn_app (goodIn_of _ (by decide +kernel)) ggX4_lift_X4_checkRow
set_option maxRecDepth 20000 in
theorem ggX4_lift_X4_checkHeight : GoodIn wsX4_lift wsX4_checkHeight := goodIn_ca (goodIn_r _ [13, 14, 15] (by decide +kernel) (by decide +kernel)) (goodIn_sub (fun _ h => List.mem_cons_of_mem _ (List.mem_append_right _ h)) (by decide +kernel))
set_option maxRecDepth 20000 in
theorem gX4_lift_X4_checkHeight : GoodIn wsX4_lift (va_wsS RX4 45 yX4_checkHeight wsX4_checkHeight) := goodIn_app (goodIn_of _ (by decide +kernel)) ggX4_lift_X4_checkHeight
set_option maxRecDepth 20000 in
theorem ggX4_lift_X4_saveState : GoodIn wsX4_lift wsX4_saveState := goodIn_r _ [19, 20, 1, 21, 22, 23, 24, 25, 26, 27, 28, 29, 30, 31, 32, 33, 34, 35, 36, 37, 38, 39, 40, 41, 42, 43, 44, 45, 46, 47, 48, 49, 50, 51, 52, 53, 54, 55, 56, 57, 58, 59, 60, 61, 62, 73, 74, 63, 64, 65, 66, 67, 68, 69, 70, 71, 72, 75, 76, 77, 78, 79] (by decide +kernel) (by decide +kernel)
set_option maxRecDepth 20000 in
theorem gX4_lift_X4_saveState : GoodIn wsX4_lift (wsV RX4 62 RX4 yX4_saveState wsX4_saveState) := goodIn_app (goodIn_of _ (by decide +kernel)) ggX4_lift_X4_saveState
theorem dX4_lift_0 : decode cX4_lift 0 = .ok (.aload_n 0, 1) := by decide +kernel
theorem dX4_lift_1 : decode cX4_lift 1 = .ok (.iload_n 1, 1) := by decide +kernel
theorem dX4_lift_2 : decode cX4_lift 2 = .ok (.invokevirtual 69, 3) := by decide +kernel
theorem dX4_lift_5 : decode cX4_lift 5 = .ok (.iload_n 2, 1) := by decide +kernel
theorem dX4_lift_6 : decode cX4_lift 6 = .ok (.invokestatic 45, 3) := by decide +kernel
theorem dX4_lift_9 : decode cX4_lift 9 = .ok (.aload_n 0, 1) := by decide +kernel
theorem dX4_lift_10 : decode cX4_lift 10 = .ok (.invokevirtual 62, 3) := by decide +kernel
theorem dX4_lift_13 : decode cX4_lift 13 = .ok (.aload_n 0, 1) := by decide +kernel
theorem dX4_lift_14 : decode cX4_lift 14 = .ok (.getfield 20, 3) := by decide +kernel
theorem dX4_lift_17 : decode cX4_lift 17 = .ok (.getfield 79, 3) := by decide +kernel
theorem dX4_lift_20 : decode cX4_lift 20 = .ok (.iload_n 1, 1) := by decide +kernel
theorem dX4_lift_21 : decode cX4_lift 21 = .ok (.iaload, 1) := by decide +kernel
theorem dX4_lift_22 : decode cX4_lift 22 = .ok (.istore_n 3, 1) := by decide +kernel
theorem dX4_lift_23 : decode cX4_lift 23 = .ok (.aload_n 0, 1) := by decide +kernel
theorem dX4_lift_24 : decode cX4_lift 24 = .ok (.getfield 20, 3) := by decide +kernel
theorem dX4_lift_27 : decode cX4_lift 27 = .ok (.getfield 79, 3) := by decide +kernel
theorem dX4_lift_30 : decode cX4_lift 30 = .ok (.iload_n 1, 1) := by decide +kernel
theorem dX4_lift_31 : decode cX4_lift 31 = .ok (.iload_n 2, 1) := by decide +kernel
theorem dX4_lift_32 : decode cX4_lift 32 = .ok (.iastore, 1) := by decide +kernel
theorem dX4_lift_33 : decode cX4_lift 33 = .ok (.iload_n 3, 1) := by decide +kernel
theorem dX4_lift_34 : decode cX4_lift 34 = .ok (.ireturn, 1) := by decide +kernel
set_option maxRecDepth 20000 in
theorem ggX4_addColumn_X4_saveState : GoodIn wsX4_addColumn wsX4_saveState := goodIn_r _ [11, 12, 5, 13, 14, 15, 16, 17, 18, 19, 20, 21, 22, 23, 24, 25, 26, 27, 28, 29, 30, 31, 32, 33, 34, 35, 36, 37, 38, 39, 40, 41, 42, 43, 44, 45, 46, 47, 48, 49, 54, 55, 56, 57, 58, 69, 70, 59, 60, 61, 62, 63, 64, 65, 66, 67, 68, 71, 72, 73, 74, 75] (by decide +kernel) (by decide +kernel)
set_option maxRecDepth 20000 in
theorem gX4_addColumn_X4_saveState : GoodIn wsX4_addColumn (wsV RX4 62 RX4 yX4_saveState wsX4_saveState) := goodIn_app (goodIn_of _ (by decide +kernel)) ggX4_addColumn_X4_saveState
set_option maxRecDepth 20000 in
theorem ggX4_addColumn_X0_insertColumn : GoodIn wsX4_addColumn wsX0_insertColumn := goodIn_r _ [53, 40, 39, 41, 42, 59, 60, 61, 62, 63, 64, 65, 66, 67, 68] (by decide +kernel) (by decide +kernel)
set_option maxRecDepth 20000 in
theorem gX4_addColumn_X0_insertColumn : GoodIn wsX4_addColumn (wsV RX4 93 RX0 yX0_insertColumn wsX0_insertColumn) := goodIn_app (goodIn_of _ (by decide +kernel)) ggX4_addColumn_X0_insertColumn
theorem dX4_addColumn_0 : decode cX4_addColumn 0 = .ok (.iload_n 1, 1) := by decide +kernel
theorem dX4_addColumn_1 : decode cX4_addColumn 1 = .ok (.iconst 1, 1) := by decide +kernel
theorem dX4_addColumn_2 : decode cX4_addColumn 2 = .ok (.if_icmp .lt 10, 3) := by decide +kernel
theorem dX4_addColumn_5 : decode cX4_addColumn 5 = .ok (.iload_n 1, 1) := by decide +kernel
theorem dX4_addColumn_6 : decode cX4_addColumn 6 = .ok (.sipush 999, 3) := by decide +kernel
theorem dX4_addColumn_9 : decode cX4_addColumn 9 = .ok (.if_icmp .le 13, 3) := by decide +kernel
theorem dX4_addColumn_12 : decode cX4_addColumn 12 = .ok (.new 38, 3) := by decide +kernel
theorem dX4_addColumn_15 : decode cX4_addColumn 15 = .ok (.dup, 1) := by decide +kernel
theorem dX4_addColumn_16 : decode cX4_addColumn 16 = .ok (.ldc 40, 2) := by decide +kernel
theorem dX4_addColumn_18 : decode cX4_addColumn 18 = .ok (.invokespecial 42, 3) := by decide +kernel
theorem dX4_addColumn_21 : decode cX4_addColumn 21 = .ok (.athrow, 1) := by decide +kernel
theorem dX4_addColumn_22 : decode cX4_addColumn 22 = .ok (.iload_n 2, 1) := by decide +kernel
theorem dX4_addColumn_23 : decode cX4_addColumn 23 = .ok (.bipush (-12), 2) := by decide +kernel
theorem dX4_addColumn_25 : decode cX4_addColumn 25 = .ok (.if_icmp .lt 9, 3) := by decide +kernel
theorem dX4_addColumn_28 : decode cX4_addColumn 28 = .ok (.iload_n 2, 1) := by decide +kernel
theorem dX4_addColumn_29 : decode cX4_addColumn 29 = .ok (.bipush 12, 2) := by decide +kernel
theorem dX4_addColumn_31 : decode cX4_addColumn 31 = .ok (.if_icmp .le 13, 3) := by decide +kernel
theorem dX4_addColumn_34 : decode cX4_addColumn 34 = .ok (.new 38, 3) := by decide +kernel
theorem dX4_addColumn_37 : decode cX4_addColumn 37 = .ok (.dup, 1) := by decide +kernel
theorem dX4_addColumn_38 : decode cX4_addColumn 38 = .ok (.ldc 83, 2) := by decide +kernel
theorem dX4_addColumn_40 : decode cX4_addColumn 40 = .ok (.invokespecial 42, 3) := by decide +kernel
theorem dX4_addColumn_43 : decode cX4_addColumn 43 = .ok (.athrow, 1) := by decide +kernel
theorem dX4_addColumn_44 : decode cX4_addColumn 44 = .ok (.iload_n 3, 1) := by decide +kernel
theorem dX4_addColumn_45 : decode cX4_addColumn 45 = .ok (.ifCond .lt 8, 3) := by decide +kernel
theorem dX4_addColumn_48 : decode cX4_addColumn 48 = .ok (.iload_n 3, 1) := by decide +kernel
theorem dX4_addColumn_49 : decode cX4_addColumn 49 = .ok (.iconst 5, 1) := by decide +kernel
theorem dX4_addColumn_50 : decode cX4_addColumn 50 = .ok (.if_icmp .le 13, 3) := by decide +kernel
theorem dX4_addColumn_53 : decode cX4_addColumn 53 = .ok (.new 38, 3) := by decide +kernel
theorem dX4_addColumn_56 : decode cX4_addColumn 56 = .ok (.dup, 1) := by decide +kernel
theorem dX4_addColumn_57 : decode cX4_addColumn 57 = .ok (.ldc 85, 2) := by decide +kernel
theorem dX4_addColumn_59 : decode cX4_addColumn 59 = .ok (.invokespecial 42, 3) := by decide +kernel
theorem dX4_addColumn_62 : decode cX4_addColumn 62 = .ok (.athrow, 1) := by decide +kernel
theorem dX4_addColumn_63 : decode cX4_addColumn 63 = .ok (.aload_n 0, 1) := by decide +kernel
theorem dX4_addColumn_64 : decode cX4_addColumn 64 = .ok (.getfield 20, 3) := by decide +kernel
theorem dX4_addColumn_67 : decode cX4_addColumn 67 = .ok (.getfield 87, 3) := by decide +kernel
theorem dX4_addColumn_70 : decode cX4_addColumn 70 = .ok (.iconst 4, 1) := by decide +kernel
theorem dX4_addColumn_71 : decode cX4_addColumn 71 = .ok (.if_icmp .lt 13, 3) := by decide +kernel
theorem dX4_addColumn_74 : decode cX4_addColumn 74 = .ok (.new 57, 3) := by decide +kernel
theorem dX4_addColumn_77 : decode cX4_addColumn 77 = .ok (.dup, 1) := by decide +kernel
theorem dX4_addColumn_78 : decode cX4_addColumn 78 = .ok (.ldc 91, 2) := by decide +kernel
theorem dX4_addColumn_80 : decode cX4_addColumn 80 = .ok (.invokespecial 61, 3) := by decide +kernel
theorem dX4_addColumn_83 : decode cX4_addColumn 83 = .ok (.athrow, 1) := by decide +kernel
theorem dX4_addColumn_84 : decode cX4_addColumn 84 = .ok (.aload_n 0, 1) := by decide +kernel
theorem dX4_addColumn_85 : decode cX4_addColumn 85 = .ok (.invokevirtual 62, 3) := by decide +kernel
theorem dX4_addColumn_88 : decode cX4_addColumn 88 = .ok (.aload_n 0, 1) := by decide +kernel
theorem dX4_addColumn_89 : decode cX4_addColumn 89 = .ok (.getfield 20, 3) := by decide +kernel
theorem dX4_addColumn_92 : decode cX4_addColumn 92 = .ok (.iload_n 1, 1) := by decide +kernel
theorem dX4_addColumn_93 : decode cX4_addColumn 93 = .ok (.iload_n 2, 1) := by decide +kernel
theorem dX4_addColumn_94 : decode cX4_addColumn 94 = .ok (.iload_n 3, 1) := by decide +kernel
theorem dX4_addColumn_95 : decode cX4_addColumn 95 = .ok (.invokevirtual 93, 3) := by decide +kernel
theorem dX4_addColumn_98 : decode cX4_addColumn 98 = .ok (.ireturn, 1) := by decide +kernel
set_option maxRecDepth 20000 in
theorem ggX4_removeColumn_X4_checkColumn : GoodIn wsX4_removeColumn wsX4_checkColumn := goodIn_ca (goodIn_r _ [7, 8, 9, 1, 2, 56, 57, 58, 59, 60, 61, 62, 63, 64, 65, 66, 67, 68, 69, 70] (by decide +kernel) (by decide +kernel)) (goodIn_sub (fun _ h => List.mem_cons_of_mem _ (List.mem_append_right _ h)) (by decide +kernel))
set_option maxRecDepth 20000 in
theorem gX4_removeColumn_X4_checkColumn : GoodIn wsX4_removeColumn (wsV RX4 96 RX4 yX4_checkColumn wsX4_checkColumn) := goodIn_app (goodIn_of _ (by decide +kernel)) ggX4_removeColumn_X4_checkColumn
set_option maxRecDepth 20000 in
theorem ggX4_removeColumn_X4_saveState : GoodIn wsX4_removeColumn wsX4_saveState := goodIn_r _ [13, 14, 1, 15, 16, 17, 18, 19, 20, 21, 22, 23, 24, 25, 26, 27, 28, 29, 30, 31, 32, 33, 34, 35, 36, 37, 38, 39, 40, 41, 42, 43, 44, 45, 46, 47, 48, 49, 50, 51, 56, 57, 58, 59, 60, 71, 72, 61, 62, 63, 64, 65, 66, 67, 68, 69, 70, 73, 74, 75, 76, 77] (by decide +kernel) (by decide +kernel)
set_option maxRecDepth 20000 in
theorem gX4_removeColumn_X4_saveState : GoodIn wsX4_removeColumn (wsV RX4 62 RX4 yX4_saveState wsX4_saveState) := goodIn_app (goodIn_of _ (by decide +kernel)) ggX4_removeColumn_X4_saveState
set_option maxRecDepth 20000 in
theorem ggX4_removeColumn_X0_deleteColumn : GoodIn wsX4_removeColumn wsX0_deleteColumn := goodIn_r _ [55, 41, 42, 43, 44, 61, 62, 63, 64, 65, 66, 67, 68, 69, 70] (by decide +kernel) (by decide +kernel)
set_option maxRecDepth 20000 in
theorem gX4_removeColumn_X0_deleteColumn : GoodIn wsX4_removeColumn (wsV RX4 99 RX0 yX0_deleteColumn wsX0_deleteColumn) := goodIn_app (goodIn_of _ (by decide +kernel)) ggX4_removeColumn_X0_deleteColumn
theorem dX4_removeColumn_0 : decode cX4_removeColumn 0 = .ok (.aload_n 0, 1) := by decide +kernel
theorem dX4_removeColumn_1 : decode cX4_removeColumn 1 = .ok (.iload_n 1, 1) := by decide +kernel
theorem dX4_removeColumn_2 : decode cX4_removeColumn 2 = .ok (.invokevirtual 96, 3) := by decide +kernel
theorem dX4_removeColumn_5 : decode cX4_removeColumn 5 = .ok (.aload_n 0, 1) := by decide +kernel
theorem dX4_removeColumn_6 : decode cX4_removeColumn 6 = .ok (.invokevirtual 62, 3) := by decide +kernel
theorem dX4_removeColumn_9 : decode cX4_removeColumn 9 = .ok (.aload_n 0, 1) := by decide +kernel
theorem dX4_removeColumn_10 : decode cX4_removeColumn 10 = .ok (.getfield 20, 3) := by decide +kernel
theorem dX4_removeColumn_13 : decode cX4_removeColumn 13 = .ok (.iload_n 1, 1) := by decide +kernel
theorem dX4_removeColumn_14 : decode cX4_removeColumn 14 = .ok (.invokevirtual 99, 3) := by decide +kernel
theorem dX4_removeColumn_17 : decode cX4_removeColumn 17 = .ok (.aload_n 0, 1) := by decide +kernel
theorem dX4_removeColumn_18 : decode cX4_removeColumn 18 = .ok (.getfield 20, 3) := by decide +kernel
theorem dX4_removeColumn_21 : decode cX4_removeColumn 21 = .ok (.getfield 87, 3) := by decide +kernel
theorem dX4_removeColumn_24 : decode cX4_removeColumn 24 = .ok (.ireturn, 1) := by decide +kernel
set_option maxRecDepth 20000 in
theorem ggX4_set_X4_checkSetting : GoodIn wsX4_set wsX4_checkSetting := goodIn_ca (goodIn_r _ [10, 11, 12] (by decide +kernel) (by decide +kernel)) (goodIn_sub (fun _ h => List.mem_cons_of_mem _ (List.mem_append_right _ h)) (by decide +kernel))
set_option maxRecDepth 20000 in
theorem gX4_set_X4_checkSetting : GoodIn wsX4_set (va_wsS RX4 102 yX4_checkSetting wsX4_checkSetting) := goodIn_app (goodIn_of _ (by decide +kernel)) ggX4_set_X4_checkSetting
set_option maxRecDepth 20000 in
theorem ggX4_set_X4_saveState : GoodIn wsX4_set wsX4_saveState := goodIn_r _ [16, 17, 5, 18, 19, 20, 21, 22, 23, 24, 25, 26, 27, 28, 29, 30, 31, 32, 33, 34, 35, 36, 37, 38, 39, 40, 41, 42, 43, 44, 45, 46, 47, 48, 49, 50, 51, 52, 53, 54, 55, 56, 57, 58, 59, 70, 71, 60, 61, 62, 63, 64, 65, 66, 67, 68, 69, 72, 73, 74, 75, 76] (by decide +kernel) (by decide +kernel)
set_option maxRecDepth 20000 in
theorem gX4_set_X4_saveState : GoodIn wsX4_set (wsV RX4 62 RX4 yX4_saveState wsX4_saveState) := goodIn_app (goodIn_of _ (by decide +kernel)) ggX4_set_X4_saveState
theorem dX4_set_0 : decode cX4_set 0 = .ok (.iload_n 1, 1) := by decide +kernel
theorem dX4_set_1 : decode cX4_set 1 = .ok (.invokestatic 102, 3) := by decide +kernel
theorem dX4_set_4 : decode cX4_set 4 = .ok (.iload_n 2, 1) := by decide +kernel
theorem dX4_set_5 : decode cX4_set 5 = .ok (.getstatic 105, 3) := by decide +kernel
theorem dX4_set_8 : decode cX4_set 8 = .ok (.iload_n 1, 1) := by decide +kernel
theorem dX4_set_9 : decode cX4_set 9 = .ok (.iaload, 1) := by decide +kernel
theorem dX4_set_10 : decode cX4_set 10 = .ok (.if_icmp .lt 12, 3) := by decide +kernel
theorem dX4_set_13 : decode cX4_set 13 = .ok (.iload_n 2, 1) := by decide +kernel
theorem dX4_set_14 : decode cX4_set 14 = .ok (.getstatic 108, 3) := by decide +kernel
theorem dX4_set_17 : decode cX4_set 17 = .ok (.iload_n 1, 1) := by decide +kernel
theorem dX4_set_18 : decode cX4_set 18 = .ok (.iaload, 1) := by decide +kernel
theorem dX4_set_19 : decode cX4_set 19 = .ok (.if_icmp .le 13, 3) := by decide +kernel
theorem dX4_set_22 : decode cX4_set 22 = .ok (.new 38, 3) := by decide +kernel
theorem dX4_set_25 : decode cX4_set 25 = .ok (.dup, 1) := by decide +kernel
theorem dX4_set_26 : decode cX4_set 26 = .ok (.ldc 111, 2) := by decide +kernel
theorem dX4_set_28 : decode cX4_set 28 = .ok (.invokespecial 42, 3) := by decide +kernel
theorem dX4_set_31 : decode cX4_set 31 = .ok (.athrow, 1) := by decide +kernel
theorem dX4_set_32 : decode cX4_set 32 = .ok (.aload_n 0, 1) := by decide +kernel
theorem dX4_set_33 : decode cX4_set 33 = .ok (.invokevirtual 62, 3) := by decide +kernel
theorem dX4_set_36 : decode cX4_set 36 = .ok (.aload_n 0, 1) := by decide +kernel
theorem dX4_set_37 : decode cX4_set 37 = .ok (.getfield 20, 3) := by decide +kernel
theorem dX4_set_40 : decode cX4_set 40 = .ok (.getfield 113, 3) := by decide +kernel
theorem dX4_set_43 : decode cX4_set 43 = .ok (.iload_n 1, 1) := by decide +kernel
theorem dX4_set_44 : decode cX4_set 44 = .ok (.iaload, 1) := by decide +kernel
theorem dX4_set_45 : decode cX4_set 45 = .ok (.istore_n 3, 1) := by decide +kernel
theorem dX4_set_46 : decode cX4_set 46 = .ok (.aload_n 0, 1) := by decide +kernel
theorem dX4_set_47 : decode cX4_set 47 = .ok (.getfield 20, 3) := by decide +kernel
theorem dX4_set_50 : decode cX4_set 50 = .ok (.getfield 113, 3) := by decide +kernel
theorem dX4_set_53 : decode cX4_set 53 = .ok (.iload_n 1, 1) := by decide +kernel
theorem dX4_set_54 : decode cX4_set 54 = .ok (.iload_n 2, 1) := by decide +kernel
theorem dX4_set_55 : decode cX4_set 55 = .ok (.iastore, 1) := by decide +kernel
theorem dX4_set_56 : decode cX4_set 56 = .ok (.iload_n 3, 1) := by decide +kernel
theorem dX4_set_57 : decode cX4_set 57 = .ok (.ireturn, 1) := by decide +kernel
set_option maxRecDepth 20000 in
theorem ggX4_take_X4_checkSeat : GoodIn wsX4_take wsX4_checkSeat := goodIn_ca (goodIn_r _ [8, 9, 10, 3, 11, 12, 13, 14, 7, 15, 16, 95, 96, 97, 98, 99, 100, 101, 102, 103, 104, 105, 106, 107, 108, 109] (by decide +kernel) (by decide +kernel)) (goodIn_sub (fun _ h => List.mem_cons_of_mem _ (List.mem_append_right _ h)) (by decide +kernel))
set_option maxRecDepth 20000 in
theorem gX4_take_X4_checkSeat : GoodIn wsX4_take (wsV RX4 116 RX4 yX4_checkSeat wsX4_checkSeat) := goodIn_app (goodIn_of _ (by decide +kernel)) ggX4_take_X4_checkSeat
set_option maxRecDepth 20000 in
theorem ggX4_take_X0_isTaken : GoodIn wsX4_take wsX0_isTaken := goodIn_r _ [21, 22, 100, 101, 102, 103, 104, 105, 106, 107, 108, 109] (by decide +kernel) (by decide +kernel)
set_option maxRecDepth 20000 in
theorem gX4_take_X0_isTaken : GoodIn wsX4_take (wsV RX4 120 RX0 yX0_isTaken wsX0_isTaken) := goodIn_app (goodIn_of _ (by decide +kernel)) ggX4_take_X0_isTaken
set_option maxRecDepth 20000 in
theorem ggX4_take_X4_saveState : GoodIn wsX4_take wsX4_saveState := goodIn_r _ [26, 27, 3, 28, 29, 30, 31, 32, 33, 34, 35, 36, 37, 38, 39, 40, 41, 42, 20, 43, 44, 45, 46, 47, 48, 49, 50, 51, 22, 52, 53, 54, 55, 56, 57, 58, 59, 60, 61, 62, 95, 96, 97, 98, 99, 110, 111, 100, 101, 102, 103, 104, 105, 106, 107, 108, 109, 112, 113, 114, 115, 116] (by decide +kernel) (by decide +kernel)
set_option maxRecDepth 20000 in
theorem gX4_take_X4_saveState : GoodIn wsX4_take (wsV RX4 62 RX4 yX4_saveState wsX4_saveState) := goodIn_app (goodIn_of _ (by decide +kernel)) ggX4_take_X4_saveState
set_option maxRecDepth 20000 in
theorem ggX4_take_X0_occupy : GoodIn wsX4_take wsX0_occupy := goodIn_r _ [66, 22, 67, 68, 20, 69, 100, 101, 102, 103, 104, 105, 106, 107, 108, 109] (by decide +kernel) (by decide +kernel)
set_option maxRecDepth 20000 in
theorem gX4_take_X0_occupy : GoodIn wsX4_take (wsV RX4 126 RX0 yX0_occupy wsX0_occupy) := goodIn_app (goodIn_of _ (by decide +kernel)) ggX4_take_X0_occupy
set_option maxRecDepth 20000 in
theorem ggX4_take_X0_peopleInWay : GoodIn wsX4_take wsX0_peopleInWay := goodIn_r _ [73, 51, 74, 18, 19, 20, 21, 22, 75, 76, 77, 78, 45, 79, 80, 81, 82, 83, 84, 85, 86, 87, 88, 89, 90, 50, 56, 91, 92, 93, 94, 100, 101, 102, 103, 104, 105, 106, 107, 108, 109] (by decide +kernel) (by decide +kernel)
set_option maxRecDepth 20000 in
theorem gX4_take_X0_peopleInWay : GoodIn wsX4_take (wsV RX4 130 RX0 yX0_peopleInWay wsX0_peopleInWay) := goodIn_app (goodIn_of _ (by decide +kernel)) ggX4_take_X0_peopleInWay
theorem dX4_take_0 : decode cX4_take 0 = .ok (.aload_n 0, 1) := by decide +kernel
theorem dX4_take_1 : decode cX4_take 1 = .ok (.iload_n 1, 1) := by decide +kernel
theorem dX4_take_2 : decode cX4_take 2 = .ok (.iload_n 2, 1) := by decide +kernel
theorem dX4_take_3 : decode cX4_take 3 = .ok (.invokevirtual 116, 3) := by decide +kernel
theorem dX4_take_6 : decode cX4_take 6 = .ok (.aload_n 0, 1) := by decide +kernel
theorem dX4_take_7 : decode cX4_take 7 = .ok (.getfield 20, 3) := by decide +kernel
theorem dX4_take_10 : decode cX4_take 10 = .ok (.iload_n 1, 1) := by decide +kernel
theorem dX4_take_11 : decode cX4_take 11 = .ok (.iload_n 2, 1) := by decide +kernel
theorem dX4_take_12 : decode cX4_take 12 = .ok (.invokevirtual 120, 3) := by decide +kernel
theorem dX4_take_15 : decode cX4_take 15 = .ok (.ifCond .eq 13, 3) := by decide +kernel
theorem dX4_take_18 : decode cX4_take 18 = .ok (.new 57, 3) := by decide +kernel
theorem dX4_take_21 : decode cX4_take 21 = .ok (.dup, 1) := by decide +kernel
theorem dX4_take_22 : decode cX4_take 22 = .ok (.ldc 124, 2) := by decide +kernel
theorem dX4_take_24 : decode cX4_take 24 = .ok (.invokespecial 61, 3) := by decide +kernel
theorem dX4_take_27 : decode cX4_take 27 = .ok (.athrow, 1) := by decide +kernel
theorem dX4_take_28 : decode cX4_take 28 = .ok (.aload_n 0, 1) := by decide +kernel
theorem dX4_take_29 : decode cX4_take 29 = .ok (.invokevirtual 62, 3) := by decide +kernel
theorem dX4_take_32 : decode cX4_take 32 = .ok (.aload_n 0, 1) := by decide +kernel
theorem dX4_take_33 : decode cX4_take 33 = .ok (.getfield 20, 3) := by decide +kernel
theorem dX4_take_36 : decode cX4_take 36 = .ok (.iload_n 1, 1) := by decide +kernel
theorem dX4_take_37 : decode cX4_take 37 = .ok (.iload_n 2, 1) := by decide +kernel
theorem dX4_take_38 : decode cX4_take 38 = .ok (.iconst 1, 1) := by decide +kernel
theorem dX4_take_39 : decode cX4_take 39 = .ok (.invokevirtual 126, 3) := by decide +kernel
theorem dX4_take_42 : decode cX4_take 42 = .ok (.aload_n 0, 1) := by decide +kernel
theorem dX4_take_43 : decode cX4_take 43 = .ok (.getfield 20, 3) := by decide +kernel
theorem dX4_take_46 : decode cX4_take 46 = .ok (.iload_n 1, 1) := by decide +kernel
theorem dX4_take_47 : decode cX4_take 47 = .ok (.iload_n 2, 1) := by decide +kernel
theorem dX4_take_48 : decode cX4_take 48 = .ok (.invokevirtual 130, 3) := by decide +kernel
theorem dX4_take_51 : decode cX4_take 51 = .ok (.ireturn, 1) := by decide +kernel
set_option maxRecDepth 20000 in
theorem ggX4_leave_X4_checkSeat : GoodIn wsX4_leave wsX4_checkSeat := goodIn_ca (goodIn_r _ [8, 9, 10, 3, 11, 12, 13, 14, 7, 15, 16, 85, 86, 87, 88, 89, 90, 91, 92, 93, 94, 95, 96, 97, 98, 99] (by decide +kernel) (by decide +kernel)) (goodIn_sub (fun _ h => List.mem_cons_of_mem _ (List.mem_append_right _ h)) (by decide +kernel))
set_option maxRecDepth 20000 in
theorem gX4_leave_X4_checkSeat : GoodIn wsX4_leave (wsV RX4 116 RX4 yX4_checkSeat wsX4_checkSeat) := goodIn_app (goodIn_of _ (by decide +kernel)) ggX4_leave_X4_checkSeat
set_option maxRecDepth 20000 in
theorem ggX4_leave_X0_isTaken : GoodIn wsX4_leave wsX0_isTaken := goodIn_r _ [21, 22, 90, 91, 92, 93, 94, 95, 96, 97, 98, 99] (by decide +kernel) (by decide +kernel)
set_option maxRecDepth 20000 in
theorem gX4_leave_X0_isTaken : GoodIn wsX4_leave (wsV RX4 120 RX0 yX0_isTaken wsX0_isTaken) := goodIn_app (goodIn_of _ (by decide +kernel)) ggX4_leave_X0_isTaken
set_option maxRecDepth 20000 in
theorem ggX4_leave_X4_saveState : GoodIn wsX4_leave wsX4_saveState := goodIn_r _ [26, 27, 3, 28, 29, 30, 31, 32, 33, 34, 35, 36, 37, 38, 39, 40, 41, 42, 20, 43, 44, 45, 46, 47, 48, 49, 50, 51, 22, 52, 53, 54, 55, 56, 57, 58, 59, 60, 61, 62, 85, 86, 87, 88, 89, 100, 101, 90, 91, 92, 93, 94, 95, 96, 97, 98, 99, 102, 103, 104, 105, 106] (by decide +kernel) (by decide +kernel)
set_option maxRecDepth 20000 in
theorem gX4_leave_X4_saveState : GoodIn wsX4_leave (wsV RX4 62 RX4 yX4_saveState wsX4_saveState) := goodIn_app (goodIn_of _ (by decide +kernel)) ggX4_leave_X4_saveState
set_option maxRecDepth 20000 in
theorem ggX4_leave_X0_vacate : GoodIn wsX4_leave wsX0_vacate := goodIn_r _ [66, 22, 67, 68, 20, 69, 90, 91, 92, 93, 94, 95, 96, 97, 98, 99] (by decide +kernel) (by decide +kernel)
set_option maxRecDepth 20000 in
theorem gX4_leave_X0_vacate : GoodIn wsX4_leave (wsV RX4 136 RX0 yX0_vacate wsX0_vacate) := goodIn_app (goodIn_of _ (by decide +kernel)) ggX4_leave_X0_vacate
set_option maxRecDepth 20000 in
theorem ggX4_leave_X0_takenInAll : GoodIn wsX4_leave wsX0_takenInAll := goodIn_r _ [73, 44, 74, 75, 76, 20, 77, 22, 78, 79, 80, 81, 82, 83, 84, 90, 91, 92, 93, 94, 95, 96, 97, 98, 99] (by decide +kernel) (by decide +kernel)
set_option maxRecDepth 20000 in
theorem gX4_leave_X0_takenInAll : GoodIn wsX4_leave (wsV RX4 139 RX0 yX0_takenInAll wsX0_takenInAll) := goodIn_app (goodIn_of _ (by decide +kernel)) ggX4_leave_X0_takenInAll
theorem dX4_leave_0 : decode cX4_leave 0 = .ok (.aload_n 0, 1) := by decide +kernel
theorem dX4_leave_1 : decode cX4_leave 1 = .ok (.iload_n 1, 1) := by decide +kernel
theorem dX4_leave_2 : decode cX4_leave 2 = .ok (.iload_n 2, 1) := by decide +kernel
theorem dX4_leave_3 : decode cX4_leave 3 = .ok (.invokevirtual 116, 3) := by decide +kernel
theorem dX4_leave_6 : decode cX4_leave 6 = .ok (.aload_n 0, 1) := by decide +kernel
theorem dX4_leave_7 : decode cX4_leave 7 = .ok (.getfield 20, 3) := by decide +kernel
theorem dX4_leave_10 : decode cX4_leave 10 = .ok (.iload_n 1, 1) := by decide +kernel
theorem dX4_leave_11 : decode cX4_leave 11 = .ok (.iload_n 2, 1) := by decide +kernel
theorem dX4_leave_12 : decode cX4_leave 12 = .ok (.invokevirtual 120, 3) := by decide +kernel
theorem dX4_leave_15 : decode cX4_leave 15 = .ok (.ifCond .ne 13, 3) := by decide +kernel
theorem dX4_leave_18 : decode cX4_leave 18 = .ok (.new 57, 3) := by decide +kernel
theorem dX4_leave_21 : decode cX4_leave 21 = .ok (.dup, 1) := by decide +kernel
theorem dX4_leave_22 : decode cX4_leave 22 = .ok (.ldc 134, 2) := by decide +kernel
theorem dX4_leave_24 : decode cX4_leave 24 = .ok (.invokespecial 61, 3) := by decide +kernel
theorem dX4_leave_27 : decode cX4_leave 27 = .ok (.athrow, 1) := by decide +kernel
theorem dX4_leave_28 : decode cX4_leave 28 = .ok (.aload_n 0, 1) := by decide +kernel
theorem dX4_leave_29 : decode cX4_leave 29 = .ok (.invokevirtual 62, 3) := by decide +kernel
theorem dX4_leave_32 : decode cX4_leave 32 = .ok (.aload_n 0, 1) := by decide +kernel
theorem dX4_leave_33 : decode cX4_leave 33 = .ok (.getfield 20, 3) := by decide +kernel
theorem dX4_leave_36 : decode cX4_leave 36 = .ok (.iload_n 1, 1) := by decide +kernel
theorem dX4_leave_37 : decode cX4_leave 37 = .ok (.iload_n 2, 1) := by decide +kernel
theorem dX4_leave_38 : decode cX4_leave 38 = .ok (.invokevirtual 136, 3) := by decide +kernel
theorem dX4_leave_41 : decode cX4_leave 41 = .ok (.aload_n 0, 1) := by decide +kernel
theorem dX4_leave_42 : decode cX4_leave 42 = .ok (.getfield 20, 3) := by decide +kernel
theorem dX4_leave_45 : decode cX4_leave 45 = .ok (.invokevirtual 139, 3) := by decide +kernel
theorem dX4_leave_48 : decode cX4_leave 48 = .ok (.ireturn, 1) := by decide +kernel
set_option maxRecDepth 20000 in
theorem ggX4_seatParty_X3_look : GoodIn wsX4_seatParty wsX3_look := goodIn_r _ [11, 12, 13, 14, 15, 16, 17, 18, 19, 20, 10, 21, 22, 23, 24, 25, 26, 27, 28, 29, 30, 31, 32, 33, 34, 35, 36, 37, 38, 39, 40, 41, 42, 43, 44, 45, 46, 47, 48, 49, 50, 51, 52, 53, 54, 55, 56, 57, 58, 59, 60, 61, 62, 63, 64, 65, 66, 67, 68, 69, 70, 71, 72, 73, 74, 75, 76, 77, 132, 133, 134, 135, 136, 137, 138, 139, 140, 141, 142, 143, 144, 145, 146] (by decide +kernel) (by decide +kernel)
set_option maxRecDepth 20000 in
theorem gX4_seatParty_X3_look : GoodIn wsX4_seatParty (wsV RX4 144 RX3 yX3_look wsX3_look) := goodIn_app (goodIn_of _ (by decide +kernel)) ggX4_seatParty_X3_look
set_option maxRecDepth 20000 in
theorem ggX4_seatParty_X3_placeForParty : GoodIn wsX4_seatParty wsX3_placeForParty := goodIn_r _ [81, 13, 14, 15, 82, 83, 84, 10, 85, 73, 74, 75, 76, 16, 17, 19, 20, 21, 86, 87, 88, 25, 89, 32, 90, 91, 92, 132, 133, 134, 135, 136, 137, 138, 139, 140, 141, 142, 143, 144, 145, 146] (by decide +kernel) (by decide +kernel)
set_option maxRecDepth 20000 in
theorem gX4_seatParty_X3_placeForParty : GoodIn wsX4_seatParty (wsV RX4 147 RX3 yX3_placeForParty wsX3_placeForParty) := goodIn_app (goodIn_of _ (by decide +kernel)) ggX4_seatParty_X3_placeForParty
set_option maxRecDepth 20000 in
theorem ggX4_seatParty_X4_saveState : GoodIn wsX4_seatParty wsX4_saveState := goodIn_r _ [97, 98, 6, 5, 99, 100, 101, 102, 103, 104, 105, 106, 107, 108, 109, 110, 111, 112, 25, 113, 114, 37, 115, 116, 117, 118, 50, 27, 32, 60, 65, 66, 67, 51, 119, 120, 121, 10, 122, 12, 127, 128, 129, 130, 131, 147, 148, 137, 138, 139, 140, 141, 142, 143, 144, 145, 146, 132, 133, 134, 135, 136] (by decide +kernel) (by decide +kernel)
set_option maxRecDepth 20000 in
theorem gX4_seatParty_X4_saveState : GoodIn wsX4_seatParty (wsV RX4 62 RX4 yX4_saveState wsX4_saveState) := goodIn_app (goodIn_of _ (by decide +kernel)) ggX4_seatParty_X4_saveState
set_option maxRecDepth 20000 in
theorem ggX4_seatParty_X0_occupy : GoodIn wsX4_seatParty wsX0_occupy := goodIn_r _ [126, 32, 90, 91, 25, 92, 137, 138, 139, 140, 141, 142, 143, 144, 145, 146] (by decide +kernel) (by decide +kernel)
set_option maxRecDepth 20000 in
theorem gX4_seatParty_X0_occupy : GoodIn wsX4_seatParty (wsV RX4 126 RX0 yX0_occupy wsX0_occupy) := goodIn_app (goodIn_of _ (by decide +kernel)) ggX4_seatParty_X0_occupy
theorem dX4_seatParty_0 : decode cX4_seatParty 0 = .ok (.iload_n 1, 1) := by decide +kernel
theorem dX4_seatParty_1 : decode cX4_seatParty 1 = .ok (.iconst 1, 1) := by decide +kernel
theorem dX4_seatParty_2 : decode cX4_seatParty 2 = .ok (.if_icmp .lt 9, 3) := by decide +kernel
theorem dX4_seatParty_5 : decode cX4_seatParty 5 = .ok (.iload_n 1, 1) := by decide +kernel
theorem dX4_seatParty_6 : decode cX4_seatParty 6 = .ok (.bipush 12, 2) := by decide +kernel
theorem dX4_seatParty_8 : decode cX4_seatParty 8 = .ok (.if_icmp .le 13, 3) := by decide +kernel
theorem dX4_seatParty_11 : decode cX4_seatParty 11 = .ok (.new 38, 3) := by decide +kernel
theorem dX4_seatParty_14 : decode cX4_seatParty 14 = .ok (.dup, 1) := by decide +kernel
theorem dX4_seatParty_15 : decode cX4_seatParty 15 = .ok (.ldc 142, 2) := by decide +kernel
theorem dX4_seatParty_17 : decode cX4_seatParty 17 = .ok (.invokespecial 42, 3) := by decide +kernel
theorem dX4_seatParty_20 : decode cX4_seatParty 20 = .ok (.athrow, 1) := by decide +kernel
theorem dX4_seatParty_21 : decode cX4_seatParty 21 = .ok (.aload_n 0, 1) := by decide +kernel
theorem dX4_seatParty_22 : decode cX4_seatParty 22 = .ok (.getfield 10, 3) := by decide +kernel
theorem dX4_seatParty_25 : decode cX4_seatParty 25 = .ok (.invokevirtual 144, 3) := by decide +kernel
theorem dX4_seatParty_28 : decode cX4_seatParty 28 = .ok (.aload_n 0, 1) := by decide +kernel
theorem dX4_seatParty_29 : decode cX4_seatParty 29 = .ok (.getfield 10, 3) := by decide +kernel
theorem dX4_seatParty_32 : decode cX4_seatParty 32 = .ok (.iload_n 1, 1) := by decide +kernel
theorem dX4_seatParty_33 : decode cX4_seatParty 33 = .ok (.invokevirtual 147, 3) := by decide +kernel
theorem dX4_seatParty_36 : decode cX4_seatParty 36 = .ok (.istore_n 2, 1) := by decide +kernel
theorem dX4_seatParty_37 : decode cX4_seatParty 37 = .ok (.iload_n 2, 1) := by decide +kernel
theorem dX4_seatParty_38 : decode cX4_seatParty 38 = .ok (.iconst (-1), 1) := by decide +kernel
theorem dX4_seatParty_39 : decode cX4_seatParty 39 = .ok (.if_icmp .ne 13, 3) := by decide +kernel
theorem dX4_seatParty_42 : decode cX4_seatParty 42 = .ok (.new 57, 3) := by decide +kernel
theorem dX4_seatParty_45 : decode cX4_seatParty 45 = .ok (.dup, 1) := by decide +kernel
theorem dX4_seatParty_46 : decode cX4_seatParty 46 = .ok (.ldc 151, 2) := by decide +kernel
theorem dX4_seatParty_48 : decode cX4_seatParty 48 = .ok (.invokespecial 61, 3) := by decide +kernel
theorem dX4_seatParty_51 : decode cX4_seatParty 51 = .ok (.athrow, 1) := by decide +kernel
theorem dX4_seatParty_52 : decode cX4_seatParty 52 = .ok (.aload_n 0, 1) := by decide +kernel
theorem dX4_seatParty_53 : decode cX4_seatParty 53 = .ok (.invokevirtual 62, 3) := by decide +kernel
theorem dX4_seatParty_56 : decode cX4_seatParty 56 = .ok (.aload_n 0, 1) := by decide +kernel
theorem dX4_seatParty_57 : decode cX4_seatParty 57 = .ok (.getfield 20, 3) := by decide +kernel
theorem dX4_seatParty_60 : decode cX4_seatParty 60 = .ok (.iload_n 2, 1) := by decide +kernel
theorem dX4_seatParty_61 : decode cX4_seatParty 61 = .ok (.bipush 100, 2) := by decide +kernel
theorem dX4_seatParty_63 : decode cX4_seatParty 63 = .ok (.idiv, 1) := by decide +kernel
theorem dX4_seatParty_64 : decode cX4_seatParty 64 = .ok (.iload_n 2, 1) := by decide +kernel
theorem dX4_seatParty_65 : decode cX4_seatParty 65 = .ok (.bipush 100, 2) := by decide +kernel
theorem dX4_seatParty_67 : decode cX4_seatParty 67 = .ok (.irem, 1) := by decide +kernel
theorem dX4_seatParty_68 : decode cX4_seatParty 68 = .ok (.iload_n 1, 1) := by decide +kernel
theorem dX4_seatParty_69 : decode cX4_seatParty 69 = .ok (.invokevirtual 126, 3) := by decide +kernel
theorem dX4_seatParty_72 : decode cX4_seatParty 72 = .ok (.iload_n 2, 1) := by decide +kernel
theorem dX4_seatParty_73 : decode cX4_seatParty 73 = .ok (.ireturn, 1) := by decide +kernel
set_option maxRecDepth 20000 in
theorem ggX4_clear_X4_saveState : GoodIn wsX4_clear wsX4_saveState := goodIn_r _ [6, 7, 1, 8, 9, 10, 11, 12, 13, 14, 15, 16, 17, 18, 19, 20, 21, 22, 23, 24, 25, 26, 27, 28, 29, 30, 31, 32, 33, 34, 35, 36, 37, 38, 39, 40, 41, 42, 43, 44, 64, 65, 66, 67, 68, 69, 70, 71, 72, 73, 74, 75, 76, 77, 78, 79, 80, 81, 82, 83, 84, 85] (by decide +kernel) (by decide +kernel)
set_option maxRecDepth 20000 in
theorem gX4_clear_X4_saveState : GoodIn wsX4_clear (wsV RX4 62 RX4 yX4_saveState wsX4_saveState) := goodIn_app (goodIn_of _ (by decide +kernel)) ggX4_clear_X4_saveState
set_option maxRecDepth 20000 in
theorem ggX4_clear_X0_takenInAll : GoodIn wsX4_clear wsX0_takenInAll := goodIn_r _ [48, 25, 49, 50, 51, 23, 52, 33, 53, 54, 55, 56, 57, 58, 59, 71, 72, 73, 74, 75, 76, 77, 78, 79, 80] (by decide +kernel) (by decide +kernel)
set_option maxRecDepth 20000 in
theorem gX4_clear_X0_takenInAll : GoodIn wsX4_clear (wsV RX4 139 RX0 yX0_takenInAll wsX0_takenInAll) := goodIn_app (goodIn_of _ (by decide +kernel)) ggX4_clear_X0_takenInAll
set_option maxRecDepth 20000 in
theorem ggX4_clear_X0_vacateAll : GoodIn wsX4_clear wsX0_vacateAll := goodIn_r _ [63, 25, 33, 71, 72, 73, 74, 75, 76, 77, 78, 79, 80] (by decide +kernel) (by decide +kernel)
set_option maxRecDepth 20000 in
theorem gX4_clear_X0_vacateAll : GoodIn wsX4_clear (wsV RX4 153 RX0 yX0_vacateAll wsX0_vacateAll) := goodIn_app (goodIn_of _ (by decide +kernel)) ggX4_clear_X0_vacateAll
theorem dX4_clear_0 : decode cX4_clear 0 = .ok (.aload_n 0, 1) := by decide +kernel
theorem dX4_clear_1 : decode cX4_clear 1 = .ok (.invokevirtual 62, 3) := by decide +kernel
theorem dX4_clear_4 : decode cX4_clear 4 = .ok (.aload_n 0, 1) := by decide +kernel
theorem dX4_clear_5 : decode cX4_clear 5 = .ok (.getfield 20, 3) := by decide +kernel
theorem dX4_clear_8 : decode cX4_clear 8 = .ok (.invokevirtual 139, 3) := by decide +kernel
theorem dX4_clear_11 : decode cX4_clear 11 = .ok (.istore_n 1, 1) := by decide +kernel
theorem dX4_clear_12 : decode cX4_clear 12 = .ok (.aload_n 0, 1) := by decide +kernel
theorem dX4_clear_13 : decode cX4_clear 13 = .ok (.getfield 20, 3) := by decide +kernel
theorem dX4_clear_16 : decode cX4_clear 16 = .ok (.invokevirtual 153, 3) := by decide +kernel
theorem dX4_clear_19 : decode cX4_clear 19 = .ok (.iload_n 1, 1) := by decide +kernel
theorem dX4_clear_20 : decode cX4_clear 20 = .ok (.ireturn, 1) := by decide +kernel
set_option maxRecDepth 20000 in
theorem ggX4_row_X4_checkRow : GoodIn wsX4_row wsX4_checkRow := goodIn_ca (goodIn_r _ [6, 7, 8, 9, 10, 113, 114, 115, 116, 117, 118, 119, 120, 121, 122, 123, 124, 125, 126, 127] (by decide +kernel) (by decide +kernel)) (goodIn_sub (fun _ h => List.mem_cons_of_mem _ (List.mem_append_left _ (List.mem_append_right _ h))) (by decide +kernel))
set_option maxRecDepth 20000 in
theorem gX4_row_X4_checkRow : GoodIn wsX4_row (wsV RX4 69 RX4 yX4_checkRow wsX4_checkRow) := goodIn_app (goodIn_of _ (by decide +kernel)) ggX4_row_X4_checkRow
set_option maxRecDepth 20000 in
theorem ggX4_row_X4_checkWhat : GoodIn wsX4_row wsX4_checkWhat := goodIn_ca (goodIn_r _ [13, 14, 15] (by decide +kernel) (by decide +kernel)) (goodIn_sub (fun _ h => List.mem_cons_of_mem _ (List.mem_append_right _ h)) (by decide +kernel))
set_option maxRecDepth 20000 in
theorem gX4_row_X4_checkWhat : GoodIn wsX4_row (va_wsS RX4 206 yX4_checkWhat wsX4_checkWhat) := goodIn_app (goodIn_of _ (by decide +kernel)) ggX4_row_X4_checkWhat
set_option maxRecDepth 20000 in
theorem ggX4_row_X3_look : GoodIn wsX4_row wsX3_look := goodIn_r _ [20, 21, 22, 23, 24, 25, 26, 27, 28, 29, 19, 30, 31, 32, 33, 34, 35, 36, 37, 38, 39, 40, 41, 42, 43, 44, 45, 46, 47, 48, 49, 50, 51, 52, 53, 54, 55, 56, 57, 58, 59, 60, 61, 62, 63, 64, 65, 66, 67, 68, 69, 70, 71, 72, 73, 74, 75, 76, 77, 78, 79, 80, 81, 82, 83, 84, 85, 86, 128, 129, 130, 131, 132, 118, 119, 120, 121, 122, 123, 124, 125, 126, 127] (by decide +kernel) (by decide +kernel)
set_option maxRecDepth 20000 in
theorem gX4_row_X3_look : GoodIn wsX4_row (wsV RX4 144 RX3 yX3_look wsX3_look) := goodIn_app (goodIn_of _ (by decide +kernel)) ggX4_row_X3_look
set_option maxRecDepth 20000 in
theorem ggX4_row_X4_rowProperty : GoodIn wsX4_row wsX4_rowProperty := goodIn_r _ [90, 9, 91, 92, 93, 1, 94, 95, 96, 34, 97, 41, 98, 99, 100, 101, 102, 103, 104, 105, 106, 107, 19, 108, 22, 24, 109, 110, 111, 112, 82, 83, 84, 85, 25, 26, 28, 29, 30, 113, 114, 115, 116, 117, 118, 119, 120, 121, 122, 123, 124, 125, 126, 127, 128, 129, 130, 131, 132] (by decide +kernel) (by decide +kernel)
set_option maxRecDepth 20000 in
theorem gX4_row_X4_rowProperty : GoodIn wsX4_row (wsV RX4 209 RX4 yX4_rowProperty wsX4_rowProperty) := goodIn_app (goodIn_of _ (by decide +kernel)) ggX4_row_X4_rowProperty
theorem dX4_row_0 : decode cX4_row 0 = .ok (.aload_n 0, 1) := by decide +kernel
theorem dX4_row_1 : decode cX4_row 1 = .ok (.iload_n 1, 1) := by decide +kernel
theorem dX4_row_2 : decode cX4_row 2 = .ok (.invokevirtual 69, 3) := by decide +kernel
theorem dX4_row_5 : decode cX4_row 5 = .ok (.iload_n 2, 1) := by decide +kernel
theorem dX4_row_6 : decode cX4_row 6 = .ok (.bipush 6, 2) := by decide +kernel
theorem dX4_row_8 : decode cX4_row 8 = .ok (.invokestatic 206, 3) := by decide +kernel
theorem dX4_row_11 : decode cX4_row 11 = .ok (.aload_n 0, 1) := by decide +kernel
theorem dX4_row_12 : decode cX4_row 12 = .ok (.getfield 10, 3) := by decide +kernel
theorem dX4_row_15 : decode cX4_row 15 = .ok (.invokevirtual 144, 3) := by decide +kernel
theorem dX4_row_18 : decode cX4_row 18 = .ok (.aload_n 0, 1) := by decide +kernel
theorem dX4_row_19 : decode cX4_row 19 = .ok (.iload_n 1, 1) := by decide +kernel
theorem dX4_row_20 : decode cX4_row 20 = .ok (.iload_n 2, 1) := by decide +kernel
theorem dX4_row_21 : decode cX4_row 21 = .ok (.invokevirtual 209, 3) := by decide +kernel
theorem dX4_row_24 : decode cX4_row 24 = .ok (.ireturn, 1) := by decide +kernel
set_option maxRecDepth 20000 in
theorem ggX4_seat_X4_checkSeat : GoodIn wsX4_seat wsX4_checkSeat := goodIn_ca (goodIn_r _ [6, 7, 8, 9, 10, 11, 12, 13, 5, 14, 15, 115, 116, 117, 118, 119, 120, 121, 122, 123, 124, 125, 126, 127, 128, 129] (by decide +kernel) (by decide +kernel)) (goodIn_sub (fun _ h => List.mem_cons_of_mem _ (List.mem_append_left _ (List.mem_append_right _ h))) (by decide +kernel))
set_option maxRecDepth 20000 in
theorem gX4_seat_X4_checkSeat : GoodIn wsX4_seat (wsV RX4 116 RX4 yX4_checkSeat wsX4_checkSeat) := goodIn_app (goodIn_of _ (by decide +kernel)) ggX4_seat_X4_checkSeat
set_option maxRecDepth 20000 in
theorem ggX4_seat_X4_checkWhat : GoodIn wsX4_seat wsX4_checkWhat := goodIn_ca (goodIn_r _ [18, 19, 20] (by decide +kernel) (by decide +kernel)) (goodIn_sub (fun _ h => List.mem_cons_of_mem _ (List.mem_append_right _ h)) (by decide +kernel))
set_option maxRecDepth 20000 in
theorem gX4_seat_X4_checkWhat : GoodIn wsX4_seat (va_wsS RX4 206 yX4_checkWhat wsX4_checkWhat) := goodIn_app (goodIn_of _ (by decide +kernel)) ggX4_seat_X4_checkWhat
set_option maxRecDepth 20000 in
theorem ggX4_seat_X3_look : GoodIn wsX4_seat wsX3_look := goodIn_r _ [25, 26, 27, 28, 29, 30, 31, 32, 33, 34, 24, 35, 36, 37, 38, 39, 40, 41, 42, 43, 44, 45, 46, 47, 48, 49, 50, 51, 52, 53, 54, 55, 56, 57, 58, 59, 60, 61, 62, 63, 64, 65, 66, 67, 68, 69, 70, 71, 72, 73, 74, 75, 76, 77, 78, 79, 80, 81, 82, 83, 84, 85, 86, 87, 88, 89, 90, 91, 130, 131, 132, 133, 134, 120, 121, 122, 123, 124, 125, 126, 127, 128, 129] (by decide +kernel) (by decide +kernel)
set_option maxRecDepth 20000 in
theorem gX4_seat_X3_look : GoodIn wsX4_seat (wsV RX4 144 RX3 yX3_look wsX3_look) := goodIn_app (goodIn_of _ (by decide +kernel)) ggX4_seat_X3_look
set_option maxRecDepth 20000 in
theorem ggX4_seat_X4_seatProperty : GoodIn wsX4_seat wsX4_seatProperty := goodIn_r _ [95, 9, 1, 96, 97, 98, 57, 58, 39, 59, 41, 99, 43, 44, 45, 46, 100, 34, 24, 35, 101, 102, 103, 104, 87, 88, 89, 90, 30, 31, 33, 105, 106, 107, 108, 109, 42, 47, 48, 49, 50, 51, 52, 53, 54, 55, 56, 60, 61, 62, 63, 64, 65, 66, 67, 68, 69, 110, 111, 112, 113, 32, 27, 28, 29, 114, 115, 116, 117, 118, 119, 130, 131, 132, 133, 134, 120, 121, 122, 123, 124, 125, 126, 127, 128, 129] (by decide +kernel) (by decide +kernel)
set_option maxRecDepth 20000 in
theorem gX4_seat_X4_seatProperty : GoodIn wsX4_seat (wsV RX4 212 RX4 yX4_seatProperty wsX4_seatProperty) := goodIn_app (goodIn_of _ (by decide +kernel)) ggX4_seat_X4_seatProperty
theorem dX4_seat_0 : decode cX4_seat 0 = .ok (.aload_n 0, 1) := by decide +kernel
theorem dX4_seat_1 : decode cX4_seat 1 = .ok (.iload_n 1, 1) := by decide +kernel
theorem dX4_seat_2 : decode cX4_seat 2 = .ok (.iload_n 2, 1) := by decide +kernel
theorem dX4_seat_3 : decode cX4_seat 3 = .ok (.invokevirtual 116, 3) := by decide +kernel
theorem dX4_seat_6 : decode cX4_seat 6 = .ok (.iload_n 3, 1) := by decide +kernel
theorem dX4_seat_7 : decode cX4_seat 7 = .ok (.bipush 7, 2) := by decide +kernel
theorem dX4_seat_9 : decode cX4_seat 9 = .ok (.invokestatic 206, 3) := by decide +kernel
theorem dX4_seat_12 : decode cX4_seat 12 = .ok (.aload_n 0, 1) := by decide +kernel
theorem dX4_seat_13 : decode cX4_seat 13 = .ok (.getfield 10, 3) := by decide +kernel
theorem dX4_seat_16 : decode cX4_seat 16 = .ok (.invokevirtual 144, 3) := by decide +kernel
theorem dX4_seat_19 : decode cX4_seat 19 = .ok (.aload_n 0, 1) := by decide +kernel
theorem dX4_seat_20 : decode cX4_seat 20 = .ok (.iload_n 1, 1) := by decide +kernel
theorem dX4_seat_21 : decode cX4_seat 21 = .ok (.iload_n 2, 1) := by decide +kernel
theorem dX4_seat_22 : decode cX4_seat 22 = .ok (.iload_n 3, 1) := by decide +kernel
theorem dX4_seat_23 : decode cX4_seat 23 = .ok (.invokevirtual 212, 3) := by decide +kernel
theorem dX4_seat_26 : decode cX4_seat 26 = .ok (.ireturn, 1) := by decide +kernel
set_option maxRecDepth 20000 in
theorem ggX4_column_X4_checkColumn : GoodIn wsX4_column wsX4_checkColumn := goodIn_ca (goodIn_r _ [5, 6, 7, 8, 9, 45, 46, 47, 48, 49, 50, 51, 52, 53, 54, 55, 56, 57, 58, 59] (by decide +kernel) (by decide +kernel)) (goodIn_sub (fun _ h => List.mem_cons_of_mem _ (List.mem_append_left _ (List.mem_append_right _ h))) (by decide +kernel))
set_option maxRecDepth 20000 in
theorem gX4_column_X4_checkColumn : GoodIn wsX4_column (wsV RX4 96 RX4 yX4_checkColumn wsX4_checkColumn) := goodIn_app (goodIn_of _ (by decide +kernel)) ggX4_column_X4_checkColumn
set_option maxRecDepth 20000 in
theorem ggX4_column_X4_checkWhat : GoodIn wsX4_column wsX4_checkWhat := goodIn_ca (goodIn_r _ [12, 13, 14] (by decide +kernel) (by decide +kernel)) (goodIn_sub (fun _ h => List.mem_cons_of_mem _ (List.mem_append_right _ h)) (by decide +kernel))
set_option maxRecDepth 20000 in
theorem gX4_column_X4_checkWhat : GoodIn wsX4_column (va_wsS RX4 206 yX4_checkWhat wsX4_checkWhat) := goodIn_app (goodIn_of _ (by decide +kernel)) ggX4_column_X4_checkWhat
set_option maxRecDepth 20000 in
theorem ggX4_column_X4_columnProperty : GoodIn wsX4_column wsX4_columnProperty := goodIn_r _ [18, 8, 19, 20, 21, 22, 23, 24, 25, 26, 27, 28, 29, 30, 31, 32, 33, 34, 35, 36, 37, 38, 39, 40, 41, 42, 43, 44, 45, 46, 47, 48, 49, 50, 51, 52, 53, 54, 55, 56, 57, 58, 59] (by decide +kernel) (by decide +kernel)
set_option maxRecDepth 20000 in
theorem gX4_column_X4_columnProperty : GoodIn wsX4_column (wsV RX4 215 RX4 yX4_columnProperty wsX4_columnProperty) := goodIn_app (goodIn_of _ (by decide +kernel)) ggX4_column_X4_columnProperty
theorem dX4_column_0 : decode cX4_column 0 = .ok (.aload_n 0, 1) := by decide +kernel
theorem dX4_column_1 : decode cX4_column 1 = .ok (.iload_n 1, 1) := by decide +kernel
theorem dX4_column_2 : decode cX4_column 2 = .ok (.invokevirtual 96, 3) := by decide +kernel
theorem dX4_column_5 : decode cX4_column 5 = .ok (.iload_n 2, 1) := by decide +kernel
theorem dX4_column_6 : decode cX4_column 6 = .ok (.iconst 4, 1) := by decide +kernel
theorem dX4_column_7 : decode cX4_column 7 = .ok (.invokestatic 206, 3) := by decide +kernel
theorem dX4_column_10 : decode cX4_column 10 = .ok (.aload_n 0, 1) := by decide +kernel
theorem dX4_column_11 : decode cX4_column 11 = .ok (.iload_n 1, 1) := by decide +kernel
theorem dX4_column_12 : decode cX4_column 12 = .ok (.iload_n 2, 1) := by decide +kernel
theorem dX4_column_13 : decode cX4_column 13 = .ok (.invokevirtual 215, 3) := by decide +kernel
theorem dX4_column_16 : decode cX4_column 16 = .ok (.ireturn, 1) := by decide +kernel
set_option maxRecDepth 20000 in
theorem ggX4_count_X4_checkWhat : GoodIn wsX4_count wsX4_checkWhat := goodIn_ca (goodIn_r _ [5, 6, 7] (by decide +kernel) (by decide +kernel)) (goodIn_sub (fun _ h => List.mem_cons_of_mem _ (List.mem_append_right _ h)) (by decide +kernel))
set_option maxRecDepth 20000 in
theorem gX4_count_X4_checkWhat : GoodIn wsX4_count (va_wsS RX4 206 yX4_checkWhat wsX4_checkWhat) := goodIn_app (goodIn_of _ (by decide +kernel)) ggX4_count_X4_checkWhat
set_option maxRecDepth 20000 in
theorem ggX4_count_X3_look : GoodIn wsX4_count wsX3_look := goodIn_r _ [12, 13, 14, 15, 16, 17, 18, 19, 20, 21, 11, 22, 23, 24, 25, 26, 27, 28, 29, 30, 31, 32, 33, 34, 35, 36, 37, 38, 39, 40, 41, 42, 43, 44, 45, 46, 47, 48, 49, 50, 51, 52, 53, 54, 55, 56, 57, 58, 59, 60, 61, 62, 63, 64, 65, 66, 67, 68, 69, 70, 71, 72, 73, 74, 75, 76, 77, 78, 141, 142, 143, 144, 145, 146, 147, 148, 149, 150, 151, 152, 153, 154, 155] (by decide +kernel) (by decide +kernel)
set_option maxRecDepth 20000 in
theorem gX4_count_X3_look : GoodIn wsX4_count (wsV RX4 144 RX3 yX3_look wsX3_look) := goodIn_app (goodIn_of _ (by decide +kernel)) ggX4_count_X3_look
set_option maxRecDepth 20000 in
theorem ggX4_count_X4_numberOf : GoodIn wsX4_count wsX4_numberOf := goodIn_r _ [82, 83, 84, 85, 1, 86, 87, 88, 89, 90, 26, 91, 92, 28, 93, 94, 95, 96, 97, 98, 99, 100, 33, 101, 102, 103, 104, 105, 106, 107, 108, 109, 110, 11, 111, 14, 15, 112, 113, 114, 115, 16, 116, 117, 118, 119, 74, 75, 76, 77, 17, 18, 20, 21, 22, 120, 121, 122, 123, 124, 30, 31, 32, 125, 126, 127, 128, 129, 130, 131, 132, 133, 134, 41, 135, 29, 136, 137, 138, 139, 140, 146, 147, 148, 149, 150, 151, 152, 153, 154, 155, 156, 157, 141, 142, 143, 144, 145] (by decide +kernel) (by decide +kernel)
set_option maxRecDepth 20000 in
theorem gX4_count_X4_numberOf : GoodIn wsX4_count (wsV RX4 226 RX4 yX4_numberOf wsX4_numberOf) := goodIn_app (goodIn_of _ (by decide +kernel)) ggX4_count_X4_numberOf
theorem dX4_count_0 : decode cX4_count 0 = .ok (.iload_n 1, 1) := by decide +kernel
theorem dX4_count_1 : decode cX4_count 1 = .ok (.bipush 9, 2) := by decide +kernel
theorem dX4_count_3 : decode cX4_count 3 = .ok (.invokestatic 206, 3) := by decide +kernel
theorem dX4_count_6 : decode cX4_count 6 = .ok (.aload_n 0, 1) := by decide +kernel
theorem dX4_count_7 : decode cX4_count 7 = .ok (.getfield 10, 3) := by decide +kernel
theorem dX4_count_10 : decode cX4_count 10 = .ok (.invokevirtual 144, 3) := by decide +kernel
theorem dX4_count_13 : decode cX4_count 13 = .ok (.aload_n 0, 1) := by decide +kernel
theorem dX4_count_14 : decode cX4_count 14 = .ok (.iload_n 1, 1) := by decide +kernel
theorem dX4_count_15 : decode cX4_count 15 = .ok (.invokevirtual 226, 3) := by decide +kernel
theorem dX4_count_18 : decode cX4_count 18 = .ok (.ireturn, 1) := by decide +kernel
set_option maxRecDepth 20000 in
theorem ggX4_saveState_X1_keep : GoodIn wsX4_saveState wsX1_keep := goodIn_r _ [8, 9, 10, 11, 12, 13, 7, 14, 15, 16, 17, 18, 19, 20, 21, 22, 23, 24, 25, 26, 27, 28, 29, 30, 31, 32, 33, 45, 46, 47, 48, 49, 50, 51, 52, 53, 54, 55, 56] (by decide +kernel) (by decide +kernel)
set_option maxRecDepth 20000 in
theorem gX4_saveState_X1_keep : GoodIn wsX4_saveState (wsV RX4 260 RX1 yX1_keep wsX1_keep) := goodIn_app (goodIn_of _ (by decide +kernel)) ggX4_saveState_X1_keep
set_option maxRecDepth 20000 in
theorem ggX4_saveState_X3_forget : GoodIn wsX4_saveState wsX3_forget := goodIn_r _ [38, 39, 57, 58, 59, 60, 61] (by decide +kernel) (by decide +kernel)
set_option maxRecDepth 20000 in
theorem gX4_saveState_X3_forget : GoodIn wsX4_saveState (wsV RX4 203 RX3 yX3_forget wsX3_forget) := goodIn_app (goodIn_of _ (by decide +kernel)) ggX4_saveState_X3_forget
theorem dX4_saveState_0 : decode cX4_saveState 0 = .ok (.aload_n 0, 1) := by decide +kernel
theorem dX4_saveState_1 : decode cX4_saveState 1 = .ok (.getfield 27, 3) := by decide +kernel
theorem dX4_saveState_4 : decode cX4_saveState 4 = .ok (.aload_n 0, 1) := by decide +kernel
theorem dX4_saveState_5 : decode cX4_saveState 5 = .ok (.getfield 20, 3) := by decide +kernel
theorem dX4_saveState_8 : decode cX4_saveState 8 = .ok (.invokevirtual 260, 3) := by decide +kernel
theorem dX4_saveState_11 : decode cX4_saveState 11 = .ok (.aload_n 0, 1) := by decide +kernel
theorem dX4_saveState_12 : decode cX4_saveState 12 = .ok (.getfield 10, 3) := by decide +kernel
theorem dX4_saveState_15 : decode cX4_saveState 15 = .ok (.invokevirtual 203, 3) := by decide +kernel
theorem dX4_saveState_18 : decode cX4_saveState 18 = .ok (.return_, 1) := by decide +kernel
theorem dX4_checkRow_0 : decode cX4_checkRow 0 = .ok (.iload_n 1, 1) := by decide +kernel
theorem dX4_checkRow_1 : decode cX4_checkRow 1 = .ok (.ifCond .lt 14, 3) := by decide +kernel
theorem dX4_checkRow_4 : decode cX4_checkRow 4 = .ok (.iload_n 1, 1) := by decide +kernel
theorem dX4_checkRow_5 : decode cX4_checkRow 5 = .ok (.aload_n 0, 1) := by decide +kernel
theorem dX4_checkRow_6 : decode cX4_checkRow 6 = .ok (.getfield 20, 3) := by decide +kernel
theorem dX4_checkRow_9 : decode cX4_checkRow 9 = .ok (.getfield 156, 3) := by decide +kernel
theorem dX4_checkRow_12 : decode cX4_checkRow 12 = .ok (.if_icmp .lt 14, 3) := by decide +kernel
theorem dX4_checkRow_15 : decode cX4_checkRow 15 = .ok (.new 263, 3) := by decide +kernel
theorem dX4_checkRow_18 : decode cX4_checkRow 18 = .ok (.dup, 1) := by decide +kernel
theorem dX4_checkRow_19 : decode cX4_checkRow 19 = .ok (.ldc_w 265, 3) := by decide +kernel
theorem dX4_checkRow_22 : decode cX4_checkRow 22 = .ok (.invokespecial 267, 3) := by decide +kernel
theorem dX4_checkRow_25 : decode cX4_checkRow 25 = .ok (.athrow, 1) := by decide +kernel
theorem dX4_checkRow_26 : decode cX4_checkRow 26 = .ok (.return_, 1) := by decide +kernel
set_option maxRecDepth 20000 in
theorem ggX4_checkSeat_X4_checkRow : GoodIn wsX4_checkSeat wsX4_checkRow := goodIn_ca (goodIn_r _ [9, 1, 2, 3, 10, 11, 12, 13, 14, 15, 16, 17, 18, 19, 20, 21, 22, 23, 24, 25] (by decide +kernel) (by decide +kernel)) (goodIn_sub (fun _ h => List.mem_cons_of_mem _ (List.mem_append_right _ h)) (by decide +kernel))
set_option maxRecDepth 20000 in
theorem gX4_checkSeat_X4_checkRow : GoodIn wsX4_checkSeat (wsV RX4 69 RX4 yX4_checkRow wsX4_checkRow) := goodIn_app (goodIn_of _ (by decide +kernel)) ggX4_checkSeat_X4_checkRow
theorem dX4_checkSeat_0 : decode cX4_checkSeat 0 = .ok (.aload_n 0, 1) := by decide +kernel
theorem dX4_checkSeat_1 : decode cX4_checkSeat 1 = .ok (.iload_n 1, 1) := by decide +kernel
theorem dX4_checkSeat_2 : decode cX4_checkSeat 2 = .ok (.invokevirtual 69, 3) := by decide +kernel
theorem dX4_checkSeat_5 : decode cX4_checkSeat 5 = .ok (.iload_n 2, 1) := by decide +kernel
theorem dX4_checkSeat_6 : decode cX4_checkSeat 6 = .ok (.ifCond .lt 16, 3) := by decide +kernel
theorem dX4_checkSeat_9 : decode cX4_checkSeat 9 = .ok (.iload_n 2, 1) := by decide +kernel
theorem dX4_checkSeat_10 : decode cX4_checkSeat 10 = .ok (.aload_n 0, 1) := by decide +kernel
theorem dX4_checkSeat_11 : decode cX4_checkSeat 11 = .ok (.getfield 20, 3) := by decide +kernel
theorem dX4_checkSeat_14 : decode cX4_checkSeat 14 = .ok (.getfield 268, 3) := by decide +kernel
theorem dX4_checkSeat_17 : decode cX4_checkSeat 17 = .ok (.iload_n 1, 1) := by decide +kernel
theorem dX4_checkSeat_18 : decode cX4_checkSeat 18 = .ok (.iaload, 1) := by decide +kernel
theorem dX4_checkSeat_19 : decode cX4_checkSeat 19 = .ok (.if_icmp .lt 14, 3) := by decide +kernel
theorem dX4_checkSeat_22 : decode cX4_checkSeat 22 = .ok (.new 263, 3) := by decide +kernel
theorem dX4_checkSeat_25 : decode cX4_checkSeat 25 = .ok (.dup, 1) := by decide +kernel
theorem dX4_checkSeat_26 : decode cX4_checkSeat 26 = .ok (.ldc_w 271, 3) := by decide +kernel
theorem dX4_checkSeat_29 : decode cX4_checkSeat 29 = .ok (.invokespecial 267, 3) := by decide +kernel
theorem dX4_checkSeat_32 : decode cX4_checkSeat 32 = .ok (.athrow, 1) := by decide +kernel
theorem dX4_checkSeat_33 : decode cX4_checkSeat 33 = .ok (.return_, 1) := by decide +kernel
theorem dX4_checkColumn_0 : decode cX4_checkColumn 0 = .ok (.iload_n 1, 1) := by decide +kernel
theorem dX4_checkColumn_1 : decode cX4_checkColumn 1 = .ok (.ifCond .lt 14, 3) := by decide +kernel
theorem dX4_checkColumn_4 : decode cX4_checkColumn 4 = .ok (.iload_n 1, 1) := by decide +kernel
theorem dX4_checkColumn_5 : decode cX4_checkColumn 5 = .ok (.aload_n 0, 1) := by decide +kernel
theorem dX4_checkColumn_6 : decode cX4_checkColumn 6 = .ok (.getfield 20, 3) := by decide +kernel
theorem dX4_checkColumn_9 : decode cX4_checkColumn 9 = .ok (.getfield 87, 3) := by decide +kernel
theorem dX4_checkColumn_12 : decode cX4_checkColumn 12 = .ok (.if_icmp .lt 14, 3) := by decide +kernel
theorem dX4_checkColumn_15 : decode cX4_checkColumn 15 = .ok (.new 263, 3) := by decide +kernel
theorem dX4_checkColumn_18 : decode cX4_checkColumn 18 = .ok (.dup, 1) := by decide +kernel
theorem dX4_checkColumn_19 : decode cX4_checkColumn 19 = .ok (.ldc_w 273, 3) := by decide +kernel
theorem dX4_checkColumn_22 : decode cX4_checkColumn 22 = .ok (.invokespecial 267, 3) := by decide +kernel
theorem dX4_checkColumn_25 : decode cX4_checkColumn 25 = .ok (.athrow, 1) := by decide +kernel
theorem dX4_checkColumn_26 : decode cX4_checkColumn 26 = .ok (.return_, 1) := by decide +kernel
theorem dX4_checkSetting_0 : decode cX4_checkSetting 0 = .ok (.iload_n 0, 1) := by decide +kernel
theorem dX4_checkSetting_1 : decode cX4_checkSetting 1 = .ok (.ifCond .lt 8, 3) := by decide +kernel
theorem dX4_checkSetting_4 : decode cX4_checkSetting 4 = .ok (.iload_n 0, 1) := by decide +kernel
theorem dX4_checkSetting_5 : decode cX4_checkSetting 5 = .ok (.iconst 3, 1) := by decide +kernel
theorem dX4_checkSetting_6 : decode cX4_checkSetting 6 = .ok (.if_icmp .lt 14, 3) := by decide +kernel
theorem dX4_checkSetting_9 : decode cX4_checkSetting 9 = .ok (.new 263, 3) := by decide +kernel
theorem dX4_checkSetting_12 : decode cX4_checkSetting 12 = .ok (.dup, 1) := by decide +kernel
theorem dX4_checkSetting_13 : decode cX4_checkSetting 13 = .ok (.ldc_w 275, 3) := by decide +kernel
theorem dX4_checkSetting_16 : decode cX4_checkSetting 16 = .ok (.invokespecial 267, 3) := by decide +kernel
theorem dX4_checkSetting_19 : decode cX4_checkSetting 19 = .ok (.athrow, 1) := by decide +kernel
theorem dX4_checkSetting_20 : decode cX4_checkSetting 20 = .ok (.return_, 1) := by decide +kernel
theorem dX4_checkHeight_0 : decode cX4_checkHeight 0 = .ok (.iload_n 0, 1) := by decide +kernel
theorem dX4_checkHeight_1 : decode cX4_checkHeight 1 = .ok (.ifCond .lt 10, 3) := by decide +kernel
theorem dX4_checkHeight_4 : decode cX4_checkHeight 4 = .ok (.iload_n 0, 1) := by decide +kernel
theorem dX4_checkHeight_5 : decode cX4_checkHeight 5 = .ok (.sipush 999, 3) := by decide +kernel
theorem dX4_checkHeight_8 : decode cX4_checkHeight 8 = .ok (.if_icmp .le 14, 3) := by decide +kernel
theorem dX4_checkHeight_11 : decode cX4_checkHeight 11 = .ok (.new 38, 3) := by decide +kernel
theorem dX4_checkHeight_14 : decode cX4_checkHeight 14 = .ok (.dup, 1) := by decide +kernel
theorem dX4_checkHeight_15 : decode cX4_checkHeight 15 = .ok (.ldc_w 277, 3) := by decide +kernel
theorem dX4_checkHeight_18 : decode cX4_checkHeight 18 = .ok (.invokespecial 42, 3) := by decide +kernel
theorem dX4_checkHeight_21 : decode cX4_checkHeight 21 = .ok (.athrow, 1) := by decide +kernel
theorem dX4_checkHeight_22 : decode cX4_checkHeight 22 = .ok (.return_, 1) := by decide +kernel
theorem dX4_checkWhat_0 : decode cX4_checkWhat 0 = .ok (.iload_n 0, 1) := by decide +kernel
theorem dX4_checkWhat_1 : decode cX4_checkWhat 1 = .ok (.ifCond .lt 8, 3) := by decide +kernel
theorem dX4_checkWhat_4 : decode cX4_checkWhat 4 = .ok (.iload_n 0, 1) := by decide +kernel
theorem dX4_checkWhat_5 : decode cX4_checkWhat 5 = .ok (.iload_n 1, 1) := by decide +kernel
theorem dX4_checkWhat_6 : decode cX4_checkWhat 6 = .ok (.if_icmp .lt 14, 3) := by decide +kernel
theorem dX4_checkWhat_9 : decode cX4_checkWhat 9 = .ok (.new 38, 3) := by decide +kernel
theorem dX4_checkWhat_12 : decode cX4_checkWhat 12 = .ok (.dup, 1) := by decide +kernel
theorem dX4_checkWhat_13 : decode cX4_checkWhat 13 = .ok (.ldc_w 279, 3) := by decide +kernel
theorem dX4_checkWhat_16 : decode cX4_checkWhat 16 = .ok (.invokespecial 42, 3) := by decide +kernel
theorem dX4_checkWhat_19 : decode cX4_checkWhat 19 = .ok (.athrow, 1) := by decide +kernel
theorem dX4_checkWhat_20 : decode cX4_checkWhat 20 = .ok (.return_, 1) := by decide +kernel
set_option maxRecDepth 20000 in
theorem ggX4_rowProperty_X0_takenInRow : GoodIn wsX4_rowProperty wsX0_takenInRow := goodIn_r _ [10, 11, 12, 13, 14, 15, 16, 17, 18, 44, 45, 46, 47, 48, 49, 50, 51, 52, 53] (by decide +kernel) (by decide +kernel)
set_option maxRecDepth 20000 in
theorem gX4_rowProperty_X0_takenInRow : GoodIn wsX4_rowProperty (wsV RX4 284 RX0 yX0_takenInRow wsX0_takenInRow) := goodIn_app (goodIn_of _ (by decide +kernel)) ggX4_rowProperty_X0_takenInRow
set_option maxRecDepth 20000 in
theorem ggX4_rowProperty_X3_seeingInRow : GoodIn wsX4_rowProperty wsX3_seeingInRow := goodIn_r _ [23, 24, 25, 26, 27, 28, 22, 29, 30, 31, 32, 33, 34, 35, 36, 37, 38, 54, 55, 56, 57, 58, 44, 45, 46, 47, 48, 49, 50, 51, 52, 53] (by decide +kernel) (by decide +kernel)
set_option maxRecDepth 20000 in
theorem gX4_rowProperty_X3_seeingInRow : GoodIn wsX4_rowProperty (wsV RX4 287 RX3 yX3_seeingInRow wsX3_seeingInRow) := goodIn_app (goodIn_of _ (by decide +kernel)) ggX4_rowProperty_X3_seeingInRow
theorem dX4_rowProperty_0 : decode cX4_rowProperty 0 = .ok (.iload_n 2, 1) := by decide +kernel
theorem dX4_rowProperty_1 : decode cX4_rowProperty 1 = .ok (.tableswitch 83 0 4 #[35, 45, 55, 65, 74], 35) := by decide +kernel
theorem dX4_rowProperty_36 : decode cX4_rowProperty 36 = .ok (.aload_n 0, 1) := by decide +kernel
theorem dX4_rowProperty_37 : decode cX4_rowProperty 37 = .ok (.getfield 20, 3) := by decide +kernel
theorem dX4_rowProperty_40 : decode cX4_rowProperty 40 = .ok (.getfield 281, 3) := by decide +kernel
theorem dX4_rowProperty_43 : decode cX4_rowProperty 43 = .ok (.iload_n 1, 1) := by decide +kernel
theorem dX4_rowProperty_44 : decode cX4_rowProperty 44 = .ok (.iaload, 1) := by decide +kernel
theorem dX4_rowProperty_45 : decode cX4_rowProperty 45 = .ok (.ireturn, 1) := by decide +kernel
theorem dX4_rowProperty_46 : decode cX4_rowProperty 46 = .ok (.aload_n 0, 1) := by decide +kernel
theorem dX4_rowProperty_47 : decode cX4_rowProperty 47 = .ok (.getfield 20, 3) := by decide +kernel
theorem dX4_rowProperty_50 : decode cX4_rowProperty 50 = .ok (.getfield 79, 3) := by decide +kernel
theorem dX4_rowProperty_53 : decode cX4_rowProperty 53 = .ok (.iload_n 1, 1) := by decide +kernel
theorem dX4_rowProperty_54 : decode cX4_rowProperty 54 = .ok (.iaload, 1) := by decide +kernel
theorem dX4_rowProperty_55 : decode cX4_rowProperty 55 = .ok (.ireturn, 1) := by decide +kernel
theorem dX4_rowProperty_56 : decode cX4_rowProperty 56 = .ok (.aload_n 0, 1) := by decide +kernel
theorem dX4_rowProperty_57 : decode cX4_rowProperty 57 = .ok (.getfield 20, 3) := by decide +kernel
theorem dX4_rowProperty_60 : decode cX4_rowProperty 60 = .ok (.getfield 268, 3) := by decide +kernel
theorem dX4_rowProperty_63 : decode cX4_rowProperty 63 = .ok (.iload_n 1, 1) := by decide +kernel
theorem dX4_rowProperty_64 : decode cX4_rowProperty 64 = .ok (.iaload, 1) := by decide +kernel
theorem dX4_rowProperty_65 : decode cX4_rowProperty 65 = .ok (.ireturn, 1) := by decide +kernel
theorem dX4_rowProperty_66 : decode cX4_rowProperty 66 = .ok (.aload_n 0, 1) := by decide +kernel
theorem dX4_rowProperty_67 : decode cX4_rowProperty 67 = .ok (.getfield 20, 3) := by decide +kernel
theorem dX4_rowProperty_70 : decode cX4_rowProperty 70 = .ok (.iload_n 1, 1) := by decide +kernel
theorem dX4_rowProperty_71 : decode cX4_rowProperty 71 = .ok (.invokevirtual 284, 3) := by decide +kernel
theorem dX4_rowProperty_74 : decode cX4_rowProperty 74 = .ok (.ireturn, 1) := by decide +kernel
theorem dX4_rowProperty_75 : decode cX4_rowProperty 75 = .ok (.aload_n 0, 1) := by decide +kernel
theorem dX4_rowProperty_76 : decode cX4_rowProperty 76 = .ok (.getfield 10, 3) := by decide +kernel
theorem dX4_rowProperty_79 : decode cX4_rowProperty 79 = .ok (.iload_n 1, 1) := by decide +kernel
theorem dX4_rowProperty_80 : decode cX4_rowProperty 80 = .ok (.invokevirtual 287, 3) := by decide +kernel
theorem dX4_rowProperty_83 : decode cX4_rowProperty 83 = .ok (.ireturn, 1) := by decide +kernel
theorem dX4_rowProperty_84 : decode cX4_rowProperty 84 = .ok (.iload_n 1, 1) := by decide +kernel
theorem dX4_rowProperty_85 : decode cX4_rowProperty 85 = .ok (.ifCond .ne 15, 3) := by decide +kernel
theorem dX4_rowProperty_88 : decode cX4_rowProperty 88 = .ok (.aload_n 0, 1) := by decide +kernel
theorem dX4_rowProperty_89 : decode cX4_rowProperty 89 = .ok (.getfield 20, 3) := by decide +kernel
theorem dX4_rowProperty_92 : decode cX4_rowProperty 92 = .ok (.getfield 79, 3) := by decide +kernel
theorem dX4_rowProperty_95 : decode cX4_rowProperty 95 = .ok (.iload_n 1, 1) := by decide +kernel
theorem dX4_rowProperty_96 : decode cX4_rowProperty 96 = .ok (.iaload, 1) := by decide +kernel
theorem dX4_rowProperty_97 : decode cX4_rowProperty 97 = .ok (.goto 24, 3) := by decide +kernel
theorem dX4_rowProperty_100 : decode cX4_rowProperty 100 = .ok (.aload_n 0, 1) := by decide +kernel
theorem dX4_rowProperty_101 : decode cX4_rowProperty 101 = .ok (.getfield 20, 3) := by decide +kernel
theorem dX4_rowProperty_104 : decode cX4_rowProperty 104 = .ok (.getfield 79, 3) := by decide +kernel
theorem dX4_rowProperty_107 : decode cX4_rowProperty 107 = .ok (.iload_n 1, 1) := by decide +kernel
theorem dX4_rowProperty_108 : decode cX4_rowProperty 108 = .ok (.iaload, 1) := by decide +kernel
theorem dX4_rowProperty_109 : decode cX4_rowProperty 109 = .ok (.aload_n 0, 1) := by decide +kernel
theorem dX4_rowProperty_110 : decode cX4_rowProperty 110 = .ok (.getfield 20, 3) := by decide +kernel
theorem dX4_rowProperty_113 : decode cX4_rowProperty 113 = .ok (.getfield 79, 3) := by decide +kernel
theorem dX4_rowProperty_116 : decode cX4_rowProperty 116 = .ok (.iload_n 1, 1) := by decide +kernel
theorem dX4_rowProperty_117 : decode cX4_rowProperty 117 = .ok (.iconst 1, 1) := by decide +kernel
theorem dX4_rowProperty_118 : decode cX4_rowProperty 118 = .ok (.isub, 1) := by decide +kernel
theorem dX4_rowProperty_119 : decode cX4_rowProperty 119 = .ok (.iaload, 1) := by decide +kernel
theorem dX4_rowProperty_120 : decode cX4_rowProperty 120 = .ok (.isub, 1) := by decide +kernel
theorem dX4_rowProperty_121 : decode cX4_rowProperty 121 = .ok (.ireturn, 1) := by decide +kernel
set_option maxRecDepth 20000 in
theorem ggX4_seatProperty_X0_sideOf : GoodIn wsX4_seatProperty wsX0_sideOf := goodIn_r _ [9, 10, 76, 77, 78, 79, 80, 81, 82, 83, 84, 85] (by decide +kernel) (by decide +kernel)
set_option maxRecDepth 20000 in
theorem gX4_seatProperty_X0_sideOf : GoodIn wsX4_seatProperty (wsV RX4 290 RX0 yX0_sideOf wsX0_sideOf) := goodIn_app (goodIn_of _ (by decide +kernel)) ggX4_seatProperty_X0_sideOf
set_option maxRecDepth 20000 in
theorem ggX4_seatProperty_X0_isTaken : GoodIn wsX4_seatProperty wsX0_isTaken := goodIn_r _ [14, 15, 76, 77, 78, 79, 80, 81, 82, 83, 84, 85] (by decide +kernel) (by decide +kernel)
set_option maxRecDepth 20000 in
theorem gX4_seatProperty_X0_isTaken : GoodIn wsX4_seatProperty (wsV RX4 120 RX0 yX0_isTaken wsX0_isTaken) := goodIn_app (goodIn_of _ (by decide +kernel)) ggX4_seatProperty_X0_isTaken
set_option maxRecDepth 20000 in
theorem ggX4_seatProperty_X3_cellOf : GoodIn wsX4_seatProperty wsX3_cellOf := goodIn_r _ [19] (by decide +kernel) (by decide +kernel)
set_option maxRecDepth 20000 in
theorem gX4_seatProperty_X3_cellOf : GoodIn wsX4_seatProperty (va_wsS RX4 296 yX3_cellOf wsX3_cellOf) := goodIn_app (goodIn_of _ (by decide +kernel)) ggX4_seatProperty_X3_cellOf
set_option maxRecDepth 20000 in
theorem ggX4_seatProperty_X3_sees : GoodIn wsX4_seatProperty wsX3_sees := goodIn_r _ [23, 24, 25, 26, 18, 27, 28, 29, 30, 17, 19, 71, 72, 73, 74, 75] (by decide +kernel) (by decide +kernel)
set_option maxRecDepth 20000 in
theorem gX4_seatProperty_X3_sees : GoodIn wsX4_seatProperty (wsV RX4 301 RX3 yX3_sees wsX3_sees) := goodIn_app (goodIn_of _ (by decide +kernel)) ggX4_seatProperty_X3_sees
set_option maxRecDepth 20000 in
theorem ggX4_seatProperty_X0_takenBehind : GoodIn wsX4_seatProperty wsX0_takenBehind := goodIn_r _ [34, 35, 10, 36, 12, 13, 8, 14, 15, 37, 38, 39, 40, 41, 42, 43, 44, 45, 46, 6, 7, 9, 47, 48, 49, 50, 51, 52, 53, 54, 55, 56, 76, 77, 78, 79, 80, 81, 82, 83, 84, 85] (by decide +kernel) (by decide +kernel)
set_option maxRecDepth 20000 in
theorem gX4_seatProperty_X0_takenBehind : GoodIn wsX4_seatProperty (wsV RX4 304 RX0 yX0_takenBehind wsX0_takenBehind) := goodIn_app (goodIn_of _ (by decide +kernel)) ggX4_seatProperty_X0_takenBehind
set_option maxRecDepth 20000 in
theorem ggX4_seatProperty_X3_placeOf : GoodIn wsX4_seatProperty wsX3_placeOf := goodIn_r _ [60, 61, 62, 63, 64, 30, 17, 18, 19, 65, 12, 13, 8, 14, 15, 71, 72, 73, 74, 75, 76, 77, 78, 79, 80, 81, 82, 83, 84, 85] (by decide +kernel) (by decide +kernel)
set_option maxRecDepth 20000 in
theorem gX4_seatProperty_X3_placeOf : GoodIn wsX4_seatProperty (wsV RX4 307 RX3 yX3_placeOf wsX3_placeOf) := goodIn_app (goodIn_of _ (by decide +kernel)) ggX4_seatProperty_X3_placeOf
theorem dX4_seatProperty_0 : decode cX4_seatProperty 0 = .ok (.iload_n 3, 1) := by decide +kernel
theorem dX4_seatProperty_1 : decode cX4_seatProperty 1 = .ok (.tableswitch 123 0 5 #[39, 49, 67, 81, 95, 113], 39) := by decide +kernel
theorem dX4_seatProperty_40 : decode cX4_seatProperty 40 = .ok (.aload_n 0, 1) := by decide +kernel
theorem dX4_seatProperty_41 : decode cX4_seatProperty 41 = .ok (.getfield 20, 3) := by decide +kernel
theorem dX4_seatProperty_44 : decode cX4_seatProperty 44 = .ok (.iload_n 1, 1) := by decide +kernel
theorem dX4_seatProperty_45 : decode cX4_seatProperty 45 = .ok (.iload_n 2, 1) := by decide +kernel
theorem dX4_seatProperty_46 : decode cX4_seatProperty 46 = .ok (.invokevirtual 290, 3) := by decide +kernel
theorem dX4_seatProperty_49 : decode cX4_seatProperty 49 = .ok (.ireturn, 1) := by decide +kernel
theorem dX4_seatProperty_50 : decode cX4_seatProperty 50 = .ok (.aload_n 0, 1) := by decide +kernel
theorem dX4_seatProperty_51 : decode cX4_seatProperty 51 = .ok (.getfield 20, 3) := by decide +kernel
theorem dX4_seatProperty_54 : decode cX4_seatProperty 54 = .ok (.iload_n 1, 1) := by decide +kernel
theorem dX4_seatProperty_55 : decode cX4_seatProperty 55 = .ok (.iload_n 2, 1) := by decide +kernel
theorem dX4_seatProperty_56 : decode cX4_seatProperty 56 = .ok (.invokevirtual 120, 3) := by decide +kernel
theorem dX4_seatProperty_59 : decode cX4_seatProperty 59 = .ok (.ifCond .eq 7, 3) := by decide +kernel
theorem dX4_seatProperty_62 : decode cX4_seatProperty 62 = .ok (.iconst 1, 1) := by decide +kernel
theorem dX4_seatProperty_63 : decode cX4_seatProperty 63 = .ok (.goto 4, 3) := by decide +kernel
theorem dX4_seatProperty_66 : decode cX4_seatProperty 66 = .ok (.iconst 0, 1) := by decide +kernel
theorem dX4_seatProperty_67 : decode cX4_seatProperty 67 = .ok (.ireturn, 1) := by decide +kernel
theorem dX4_seatProperty_68 : decode cX4_seatProperty 68 = .ok (.aload_n 0, 1) := by decide +kernel
theorem dX4_seatProperty_69 : decode cX4_seatProperty 69 = .ok (.getfield 10, 3) := by decide +kernel
theorem dX4_seatProperty_72 : decode cX4_seatProperty 72 = .ok (.getfield 293, 3) := by decide +kernel
theorem dX4_seatProperty_75 : decode cX4_seatProperty 75 = .ok (.iload_n 1, 1) := by decide +kernel
theorem dX4_seatProperty_76 : decode cX4_seatProperty 76 = .ok (.iload_n 2, 1) := by decide +kernel
theorem dX4_seatProperty_77 : decode cX4_seatProperty 77 = .ok (.invokestatic 296, 3) := by decide +kernel
theorem dX4_seatProperty_80 : decode cX4_seatProperty 80 = .ok (.iaload, 1) := by decide +kernel
theorem dX4_seatProperty_81 : decode cX4_seatProperty 81 = .ok (.ireturn, 1) := by decide +kernel
theorem dX4_seatProperty_82 : decode cX4_seatProperty 82 = .ok (.aload_n 0, 1) := by decide +kernel
theorem dX4_seatProperty_83 : decode cX4_seatProperty 83 = .ok (.getfield 10, 3) := by decide +kernel
theorem dX4_seatProperty_86 : decode cX4_seatProperty 86 = .ok (.getfield 299, 3) := by decide +kernel
theorem dX4_seatProperty_89 : decode cX4_seatProperty 89 = .ok (.iload_n 1, 1) := by decide +kernel
theorem dX4_seatProperty_90 : decode cX4_seatProperty 90 = .ok (.iload_n 2, 1) := by decide +kernel
theorem dX4_seatProperty_91 : decode cX4_seatProperty 91 = .ok (.invokestatic 296, 3) := by decide +kernel
theorem dX4_seatProperty_94 : decode cX4_seatProperty 94 = .ok (.iaload, 1) := by decide +kernel
theorem dX4_seatProperty_95 : decode cX4_seatProperty 95 = .ok (.ireturn, 1) := by decide +kernel
theorem dX4_seatProperty_96 : decode cX4_seatProperty 96 = .ok (.aload_n 0, 1) := by decide +kernel
theorem dX4_seatProperty_97 : decode cX4_seatProperty 97 = .ok (.getfield 10, 3) := by decide +kernel
theorem dX4_seatProperty_100 : decode cX4_seatProperty 100 = .ok (.iload_n 1, 1) := by decide +kernel
theorem dX4_seatProperty_101 : decode cX4_seatProperty 101 = .ok (.iload_n 2, 1) := by decide +kernel
theorem dX4_seatProperty_102 : decode cX4_seatProperty 102 = .ok (.invokevirtual 301, 3) := by decide +kernel
theorem dX4_seatProperty_105 : decode cX4_seatProperty 105 = .ok (.ifCond .eq 7, 3) := by decide +kernel
theorem dX4_seatProperty_108 : decode cX4_seatProperty 108 = .ok (.iconst 1, 1) := by decide +kernel
theorem dX4_seatProperty_109 : decode cX4_seatProperty 109 = .ok (.goto 4, 3) := by decide +kernel
theorem dX4_seatProperty_112 : decode cX4_seatProperty 112 = .ok (.iconst 0, 1) := by decide +kernel
theorem dX4_seatProperty_113 : decode cX4_seatProperty 113 = .ok (.ireturn, 1) := by decide +kernel
theorem dX4_seatProperty_114 : decode cX4_seatProperty 114 = .ok (.aload_n 0, 1) := by decide +kernel
theorem dX4_seatProperty_115 : decode cX4_seatProperty 115 = .ok (.getfield 20, 3) := by decide +kernel
theorem dX4_seatProperty_118 : decode cX4_seatProperty 118 = .ok (.iload_n 1, 1) := by decide +kernel
theorem dX4_seatProperty_119 : decode cX4_seatProperty 119 = .ok (.iload_n 2, 1) := by decide +kernel
theorem dX4_seatProperty_120 : decode cX4_seatProperty 120 = .ok (.invokevirtual 304, 3) := by decide +kernel
theorem dX4_seatProperty_123 : decode cX4_seatProperty 123 = .ok (.ireturn, 1) := by decide +kernel
theorem dX4_seatProperty_124 : decode cX4_seatProperty 124 = .ok (.aload_n 0, 1) := by decide +kernel
theorem dX4_seatProperty_125 : decode cX4_seatProperty 125 = .ok (.getfield 10, 3) := by decide +kernel
theorem dX4_seatProperty_128 : decode cX4_seatProperty 128 = .ok (.iload_n 1, 1) := by decide +kernel
theorem dX4_seatProperty_129 : decode cX4_seatProperty 129 = .ok (.iload_n 2, 1) := by decide +kernel
theorem dX4_seatProperty_130 : decode cX4_seatProperty 130 = .ok (.iconst 0, 1) := by decide +kernel
theorem dX4_seatProperty_131 : decode cX4_seatProperty 131 = .ok (.invokevirtual 307, 3) := by decide +kernel
theorem dX4_seatProperty_134 : decode cX4_seatProperty 134 = .ok (.ireturn, 1) := by decide +kernel
set_option maxRecDepth 20000 in
theorem ggX4_columnProperty_X0_seatsBehindColumn : GoodIn wsX4_columnProperty wsX0_seatsBehindColumn := goodIn_r _ [9, 10, 11, 12, 13, 14, 8, 15, 16, 17, 18, 19, 20, 21, 22, 23, 24, 25, 26, 27, 33, 34, 35, 36, 37, 38, 39, 40, 41, 42] (by decide +kernel) (by decide +kernel)
set_option maxRecDepth 20000 in
theorem gX4_columnProperty_X0_seatsBehindColumn : GoodIn wsX4_columnProperty (wsV RX4 320 RX0 yX0_seatsBehindColumn wsX0_seatsBehindColumn) := goodIn_app (goodIn_of _ (by decide +kernel)) ggX4_columnProperty_X0_seatsBehindColumn
theorem dX4_columnProperty_0 : decode cX4_columnProperty 0 = .ok (.iload_n 2, 1) := by decide +kernel
theorem dX4_columnProperty_1 : decode cX4_columnProperty 1 = .ok (.tableswitch 57 0 2 #[27, 37, 47], 27) := by decide +kernel
theorem dX4_columnProperty_28 : decode cX4_columnProperty 28 = .ok (.aload_n 0, 1) := by decide +kernel
theorem dX4_columnProperty_29 : decode cX4_columnProperty 29 = .ok (.getfield 20, 3) := by decide +kernel
theorem dX4_columnProperty_32 : decode cX4_columnProperty 32 = .ok (.getfield 311, 3) := by decide +kernel
theorem dX4_columnProperty_35 : decode cX4_columnProperty 35 = .ok (.iload_n 1, 1) := by decide +kernel
theorem dX4_columnProperty_36 : decode cX4_columnProperty 36 = .ok (.iaload, 1) := by decide +kernel
theorem dX4_columnProperty_37 : decode cX4_columnProperty 37 = .ok (.ireturn, 1) := by decide +kernel
theorem dX4_columnProperty_38 : decode cX4_columnProperty 38 = .ok (.aload_n 0, 1) := by decide +kernel
theorem dX4_columnProperty_39 : decode cX4_columnProperty 39 = .ok (.getfield 20, 3) := by decide +kernel
theorem dX4_columnProperty_42 : decode cX4_columnProperty 42 = .ok (.getfield 314, 3) := by decide +kernel
theorem dX4_columnProperty_45 : decode cX4_columnProperty 45 = .ok (.iload_n 1, 1) := by decide +kernel
theorem dX4_columnProperty_46 : decode cX4_columnProperty 46 = .ok (.iaload, 1) := by decide +kernel
theorem dX4_columnProperty_47 : decode cX4_columnProperty 47 = .ok (.ireturn, 1) := by decide +kernel
theorem dX4_columnProperty_48 : decode cX4_columnProperty 48 = .ok (.aload_n 0, 1) := by decide +kernel
theorem dX4_columnProperty_49 : decode cX4_columnProperty 49 = .ok (.getfield 20, 3) := by decide +kernel
theorem dX4_columnProperty_52 : decode cX4_columnProperty 52 = .ok (.getfield 317, 3) := by decide +kernel
theorem dX4_columnProperty_55 : decode cX4_columnProperty 55 = .ok (.iload_n 1, 1) := by decide +kernel
theorem dX4_columnProperty_56 : decode cX4_columnProperty 56 = .ok (.iaload, 1) := by decide +kernel
theorem dX4_columnProperty_57 : decode cX4_columnProperty 57 = .ok (.ireturn, 1) := by decide +kernel
theorem dX4_columnProperty_58 : decode cX4_columnProperty 58 = .ok (.aload_n 0, 1) := by decide +kernel
theorem dX4_columnProperty_59 : decode cX4_columnProperty 59 = .ok (.getfield 20, 3) := by decide +kernel
theorem dX4_columnProperty_62 : decode cX4_columnProperty 62 = .ok (.iload_n 1, 1) := by decide +kernel
theorem dX4_columnProperty_63 : decode cX4_columnProperty 63 = .ok (.invokevirtual 320, 3) := by decide +kernel
theorem dX4_columnProperty_66 : decode cX4_columnProperty 66 = .ok (.ireturn, 1) := by decide +kernel
set_option maxRecDepth 20000 in
theorem ggX4_numberOf_X0_seatsInAll : GoodIn wsX4_numberOf wsX0_seatsInAll := goodIn_r _ [11, 12, 13, 81, 82, 83, 84, 85, 86, 87, 88, 89, 90] (by decide +kernel) (by decide +kernel)
set_option maxRecDepth 20000 in
theorem gX4_numberOf_X0_seatsInAll : GoodIn wsX4_numberOf (wsV RX4 75 RX0 yX0_seatsInAll wsX0_seatsInAll) := goodIn_app (goodIn_of _ (by decide +kernel)) ggX4_numberOf_X0_seatsInAll
set_option maxRecDepth 20000 in
theorem ggX4_numberOf_X0_takenInAll : GoodIn wsX4_numberOf wsX0_takenInAll := goodIn_r _ [17, 12, 18, 19, 20, 10, 21, 22, 23, 24, 25, 26, 27, 28, 29, 81, 82, 83, 84, 85, 86, 87, 88, 89, 90] (by decide +kernel) (by decide +kernel)
set_option maxRecDepth 20000 in
theorem gX4_numberOf_X0_takenInAll : GoodIn wsX4_numberOf (wsV RX4 139 RX0 yX0_takenInAll wsX0_takenInAll) := goodIn_app (goodIn_of _ (by decide +kernel)) ggX4_numberOf_X0_takenInAll
set_option maxRecDepth 20000 in
theorem ggX4_numberOf_X3_seeing : GoodIn wsX4_numberOf wsX3_seeing := goodIn_r _ [34, 35, 36, 37, 38, 39, 33, 40, 41, 42, 43, 44, 45, 46, 47, 48, 49, 50, 51, 52, 53, 54, 93, 94, 95, 96, 97, 81, 82, 83, 84, 85, 86, 87, 88, 89, 90] (by decide +kernel) (by decide +kernel)
set_option maxRecDepth 20000 in
theorem gX4_numberOf_X3_seeing : GoodIn wsX4_numberOf (wsV RX4 323 RX3 yX3_seeing wsX3_seeing) := goodIn_app (goodIn_of _ (by decide +kernel)) ggX4_numberOf_X3_seeing
set_option maxRecDepth 20000 in
theorem ggX4_numberOf_X3_takenSeeing : GoodIn wsX4_numberOf wsX3_takenSeeing := goodIn_r _ [58, 35, 36, 41, 59, 60, 61, 10, 62, 22, 42, 43, 44, 33, 45, 46, 47, 48, 49, 50, 51, 52, 53, 54, 93, 94, 95, 96, 97, 81, 82, 83, 84, 85, 86, 87, 88, 89, 90] (by decide +kernel) (by decide +kernel)
set_option maxRecDepth 20000 in
theorem gX4_numberOf_X3_takenSeeing : GoodIn wsX4_numberOf (wsV RX4 326 RX3 yX3_takenSeeing wsX3_takenSeeing) := goodIn_app (goodIn_of _ (by decide +kernel)) ggX4_numberOf_X3_takenSeeing
set_option maxRecDepth 20000 in
theorem ggX4_numberOf_X3_pairsInWay : GoodIn wsX4_numberOf wsX3_pairsInWay := goodIn_r _ [66, 35, 36, 41, 50, 59, 60, 61, 10, 62, 22, 52, 53, 33, 54, 93, 94, 95, 96, 97, 81, 82, 83, 84, 85, 86, 87, 88, 89, 90] (by decide +kernel) (by decide +kernel)
set_option maxRecDepth 20000 in
theorem gX4_numberOf_X3_pairsInWay : GoodIn wsX4_numberOf (wsV RX4 329 RX3 yX3_pairsInWay wsX3_pairsInWay) := goodIn_app (goodIn_of _ (by decide +kernel)) ggX4_numberOf_X3_pairsInWay
set_option maxRecDepth 20000 in
theorem ggX4_numberOf_X0_longestFree : GoodIn wsX4_numberOf wsX0_longestFree := goodIn_r _ [70, 12, 13, 71, 72, 73, 74, 75, 60, 61, 10, 62, 22, 81, 82, 83, 84, 85, 86, 87, 88, 89, 90] (by decide +kernel) (by decide +kernel)
set_option maxRecDepth 20000 in
theorem gX4_numberOf_X0_longestFree : GoodIn wsX4_numberOf (wsV RX4 332 RX0 yX0_longestFree wsX0_longestFree) := goodIn_app (goodIn_of _ (by decide +kernel)) ggX4_numberOf_X0_longestFree
theorem dX4_numberOf_0 : decode cX4_numberOf 0 = .ok (.iload_n 1, 1) := by decide +kernel
theorem dX4_numberOf_1 : decode cX4_numberOf 1 = .ok (.tableswitch 111 0 7 #[47, 55, 63, 71, 79, 87, 95, 103], 47) := by decide +kernel
theorem dX4_numberOf_48 : decode cX4_numberOf 48 = .ok (.aload_n 0, 1) := by decide +kernel
theorem dX4_numberOf_49 : decode cX4_numberOf 49 = .ok (.getfield 20, 3) := by decide +kernel
theorem dX4_numberOf_52 : decode cX4_numberOf 52 = .ok (.getfield 156, 3) := by decide +kernel
theorem dX4_numberOf_55 : decode cX4_numberOf 55 = .ok (.ireturn, 1) := by decide +kernel
theorem dX4_numberOf_56 : decode cX4_numberOf 56 = .ok (.aload_n 0, 1) := by decide +kernel
theorem dX4_numberOf_57 : decode cX4_numberOf 57 = .ok (.getfield 20, 3) := by decide +kernel
theorem dX4_numberOf_60 : decode cX4_numberOf 60 = .ok (.getfield 87, 3) := by decide +kernel
theorem dX4_numberOf_63 : decode cX4_numberOf 63 = .ok (.ireturn, 1) := by decide +kernel
theorem dX4_numberOf_64 : decode cX4_numberOf 64 = .ok (.aload_n 0, 1) := by decide +kernel
theorem dX4_numberOf_65 : decode cX4_numberOf 65 = .ok (.getfield 20, 3) := by decide +kernel
theorem dX4_numberOf_68 : decode cX4_numberOf 68 = .ok (.invokevirtual 75, 3) := by decide +kernel
theorem dX4_numberOf_71 : decode cX4_numberOf 71 = .ok (.ireturn, 1) := by decide +kernel
theorem dX4_numberOf_72 : decode cX4_numberOf 72 = .ok (.aload_n 0, 1) := by decide +kernel
theorem dX4_numberOf_73 : decode cX4_numberOf 73 = .ok (.getfield 20, 3) := by decide +kernel
theorem dX4_numberOf_76 : decode cX4_numberOf 76 = .ok (.invokevirtual 139, 3) := by decide +kernel
theorem dX4_numberOf_79 : decode cX4_numberOf 79 = .ok (.ireturn, 1) := by decide +kernel
theorem dX4_numberOf_80 : decode cX4_numberOf 80 = .ok (.aload_n 0, 1) := by decide +kernel
theorem dX4_numberOf_81 : decode cX4_numberOf 81 = .ok (.getfield 10, 3) := by decide +kernel
theorem dX4_numberOf_84 : decode cX4_numberOf 84 = .ok (.invokevirtual 323, 3) := by decide +kernel
theorem dX4_numberOf_87 : decode cX4_numberOf 87 = .ok (.ireturn, 1) := by decide +kernel
theorem dX4_numberOf_88 : decode cX4_numberOf 88 = .ok (.aload_n 0, 1) := by decide +kernel
theorem dX4_numberOf_89 : decode cX4_numberOf 89 = .ok (.getfield 10, 3) := by decide +kernel
theorem dX4_numberOf_92 : decode cX4_numberOf 92 = .ok (.invokevirtual 326, 3) := by decide +kernel
theorem dX4_numberOf_95 : decode cX4_numberOf 95 = .ok (.ireturn, 1) := by decide +kernel
theorem dX4_numberOf_96 : decode cX4_numberOf 96 = .ok (.aload_n 0, 1) := by decide +kernel
theorem dX4_numberOf_97 : decode cX4_numberOf 97 = .ok (.getfield 10, 3) := by decide +kernel
theorem dX4_numberOf_100 : decode cX4_numberOf 100 = .ok (.invokevirtual 329, 3) := by decide +kernel
theorem dX4_numberOf_103 : decode cX4_numberOf 103 = .ok (.ireturn, 1) := by decide +kernel
theorem dX4_numberOf_104 : decode cX4_numberOf 104 = .ok (.aload_n 0, 1) := by decide +kernel
theorem dX4_numberOf_105 : decode cX4_numberOf 105 = .ok (.getfield 20, 3) := by decide +kernel
theorem dX4_numberOf_108 : decode cX4_numberOf 108 = .ok (.invokevirtual 332, 3) := by decide +kernel
theorem dX4_numberOf_111 : decode cX4_numberOf 111 = .ok (.ireturn, 1) := by decide +kernel
theorem dX4_numberOf_112 : decode cX4_numberOf 112 = .ok (.aload_n 0, 1) := by decide +kernel
theorem dX4_numberOf_113 : decode cX4_numberOf 113 = .ok (.getfield 27, 3) := by decide +kernel
theorem dX4_numberOf_116 : decode cX4_numberOf 116 = .ok (.getfield 194, 3) := by decide +kernel
theorem dX4_numberOf_119 : decode cX4_numberOf 119 = .ok (.ireturn, 1) := by decide +kernel
