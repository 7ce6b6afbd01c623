theorem dX0_init_0 : decode cX0_init 0 = .ok (.aload_n 0, 1) := by decide +kernel
theorem dX0_init_1 : decode cX0_init 1 = .ok (.invokespecial 3, 3) := by decide +kernel
theorem dX0_init_4 : decode cX0_init 4 = .ok (.aload_n 0, 1) := by decide +kernel
theorem dX0_init_5 : decode cX0_init 5 = .ok (.bipush 10, 2) := by decide +kernel
theorem dX0_init_7 : decode cX0_init 7 = .ok (.newarray .int, 2) := by decide +kernel
theorem dX0_init_9 : decode cX0_init 9 = .ok (.putfield 9, 3) := by decide +kernel
theorem dX0_init_12 : decode cX0_init 12 = .ok (.aload_n 0, 1) := by decide +kernel
theorem dX0_init_13 : decode cX0_init 13 = .ok (.bipush 10, 2) := by decide +kernel
theorem dX0_init_15 : decode cX0_init 15 = .ok (.newarray .int, 2) := by decide +kernel
theorem dX0_init_17 : decode cX0_init 17 = .ok (.putfield 15, 3) := by decide +kernel
theorem dX0_init_20 : decode cX0_init 20 = .ok (.aload_n 0, 1) := by decide +kernel
theorem dX0_init_21 : decode cX0_init 21 = .ok (.bipush 10, 2) := by decide +kernel
theorem dX0_init_23 : decode cX0_init 23 = .ok (.newarray .int, 2) := by decide +kernel
theorem dX0_init_25 : decode cX0_init 25 = .ok (.putfield 18, 3) := by decide +kernel
theorem dX0_init_28 : decode cX0_init 28 = .ok (.aload_n 0, 1) := by decide +kernel
theorem dX0_init_29 : decode cX0_init 29 = .ok (.bipush 10, 2) := by decide +kernel
theorem dX0_init_31 : decode cX0_init 31 = .ok (.newarray .int, 2) := by decide +kernel
theorem dX0_init_33 : decode cX0_init 33 = .ok (.putfield 21, 3) := by decide +kernel
theorem dX0_init_36 : decode cX0_init 36 = .ok (.aload_n 0, 1) := by decide +kernel
theorem dX0_init_37 : decode cX0_init 37 = .ok (.iconst 4, 1) := by decide +kernel
theorem dX0_init_38 : decode cX0_init 38 = .ok (.newarray .int, 2) := by decide +kernel
theorem dX0_init_40 : decode cX0_init 40 = .ok (.putfield 24, 3) := by decide +kernel
theorem dX0_init_43 : decode cX0_init 43 = .ok (.aload_n 0, 1) := by decide +kernel
theorem dX0_init_44 : decode cX0_init 44 = .ok (.iconst 4, 1) := by decide +kernel
theorem dX0_init_45 : decode cX0_init 45 = .ok (.newarray .int, 2) := by decide +kernel
theorem dX0_init_47 : decode cX0_init 47 = .ok (.putfield 27, 3) := by decide +kernel
theorem dX0_init_50 : decode cX0_init 50 = .ok (.aload_n 0, 1) := by decide +kernel
theorem dX0_init_51 : decode cX0_init 51 = .ok (.iconst 4, 1) := by decide +kernel
theorem dX0_init_52 : decode cX0_init 52 = .ok (.newarray .int, 2) := by decide +kernel
theorem dX0_init_54 : decode cX0_init 54 = .ok (.putfield 30, 3) := by decide +kernel
theorem dX0_init_57 : decode cX0_init 57 = .ok (.aload_n 0, 1) := by decide +kernel
theorem dX0_init_58 : decode cX0_init 58 = .ok (.iconst 3, 1) := by decide +kernel
theorem dX0_init_59 : decode cX0_init 59 = .ok (.newarray .int, 2) := by decide +kernel
theorem dX0_init_61 : decode cX0_init 61 = .ok (.dup, 1) := by decide +kernel
theorem dX0_init_62 : decode cX0_init 62 = .ok (.iconst 0, 1) := by decide +kernel
theorem dX0_init_63 : decode cX0_init 63 = .ok (.bipush 100, 2) := by decide +kernel
theorem dX0_init_65 : decode cX0_init 65 = .ok (.iastore, 1) := by decide +kernel
theorem dX0_init_66 : decode cX0_init 66 = .ok (.dup, 1) := by decide +kernel
theorem dX0_init_67 : decode cX0_init 67 = .ok (.iconst 1, 1) := by decide +kernel
theorem dX0_init_68 : decode cX0_init 68 = .ok (.bipush 120, 2) := by decide +kernel
theorem dX0_init_70 : decode cX0_init 70 = .ok (.iastore, 1) := by decide +kernel
theorem dX0_init_71 : decode cX0_init 71 = .ok (.dup, 1) := by decide +kernel
theorem dX0_init_72 : decode cX0_init 72 = .ok (.iconst 2, 1) := by decide +kernel
theorem dX0_init_73 : decode cX0_init 73 = .ok (.bipush 12, 2) := by decide +kernel
theorem dX0_init_75 : decode cX0_init 75 = .ok (.iastore, 1) := by decide +kernel
theorem dX0_init_76 : decode cX0_init 76 = .ok (.putfield 33, 3) := by decide +kernel
theorem dX0_init_79 : decode cX0_init 79 = .ok (.return_, 1) := by decide +kernel
theorem dX0_copyFrom_0 : decode cX0_copyFrom 0 = .ok (.aload_n 0, 1) := by decide +kernel
theorem dX0_copyFrom_1 : decode cX0_copyFrom 1 = .ok (.aload_n 1, 1) := by decide +kernel
theorem dX0_copyFrom_2 : decode cX0_copyFrom 2 = .ok (.getfield 36, 3) := by decide +kernel
theorem dX0_copyFrom_5 : decode cX0_copyFrom 5 = .ok (.putfield 36, 3) := by decide +kernel
theorem dX0_copyFrom_8 : decode cX0_copyFrom 8 = .ok (.aload_n 1, 1) := by decide +kernel
theorem dX0_copyFrom_9 : decode cX0_copyFrom 9 = .ok (.getfield 9, 3) := by decide +kernel
theorem dX0_copyFrom_12 : decode cX0_copyFrom 12 = .ok (.iconst 0, 1) := by decide +kernel
theorem dX0_copyFrom_13 : decode cX0_copyFrom 13 = .ok (.aload_n 0, 1) := by decide +kernel
theorem dX0_copyFrom_14 : decode cX0_copyFrom 14 = .ok (.getfield 9, 3) := by decide +kernel
theorem dX0_copyFrom_17 : decode cX0_copyFrom 17 = .ok (.iconst 0, 1) := by decide +kernel
theorem dX0_copyFrom_18 : decode cX0_copyFrom 18 = .ok (.bipush 10, 2) := by decide +kernel
theorem dX0_copyFrom_20 : decode cX0_copyFrom 20 = .ok (.invokestatic 40, 3) := by decide +kernel
theorem dX0_copyFrom_23 : decode cX0_copyFrom 23 = .ok (.aload_n 1, 1) := by decide +kernel
theorem dX0_copyFrom_24 : decode cX0_copyFrom 24 = .ok (.getfield 15, 3) := by decide +kernel
theorem dX0_copyFrom_27 : decode cX0_copyFrom 27 = .ok (.iconst 0, 1) := by decide +kernel
theorem dX0_copyFrom_28 : decode cX0_copyFrom 28 = .ok (.aload_n 0, 1) := by decide +kernel
theorem dX0_copyFrom_29 : decode cX0_copyFrom 29 = .ok (.getfield 15, 3) := by decide +kernel
theorem dX0_copyFrom_32 : decode cX0_copyFrom 32 = .ok (.iconst 0, 1) := by decide +kernel
theorem dX0_copyFrom_33 : decode cX0_copyFrom 33 = .ok (.bipush 10, 2) := by decide +kernel
theorem dX0_copyFrom_35 : decode cX0_copyFrom 35 = .ok (.invokestatic 40, 3) := by decide +kernel
theorem dX0_copyFrom_38 : decode cX0_copyFrom 38 = .ok (.aload_n 1, 1) := by decide +kernel
theorem dX0_copyFrom_39 : decode cX0_copyFrom 39 = .ok (.getfield 18, 3) := by decide +kernel
theorem dX0_copyFrom_42 : decode cX0_copyFrom 42 = .ok (.iconst 0, 1) := by decide +kernel
theorem dX0_copyFrom_43 : decode cX0_copyFrom 43 = .ok (.aload_n 0, 1) := by decide +kernel
theorem dX0_copyFrom_44 : decode cX0_copyFrom 44 = .ok (.getfield 18, 3) := by decide +kernel
theorem dX0_copyFrom_47 : decode cX0_copyFrom 47 = .ok (.iconst 0, 1) := by decide +kernel
theorem dX0_copyFrom_48 : decode cX0_copyFrom 48 = .ok (.bipush 10, 2) := by decide +kernel
theorem dX0_copyFrom_50 : decode cX0_copyFrom 50 = .ok (.invokestatic 40, 3) := by decide +kernel
theorem dX0_copyFrom_53 : decode cX0_copyFrom 53 = .ok (.aload_n 1, 1) := by decide +kernel
theorem dX0_copyFrom_54 : decode cX0_copyFrom 54 = .ok (.getfield 21, 3) := by decide +kernel
theorem dX0_copyFrom_57 : decode cX0_copyFrom 57 = .ok (.iconst 0, 1) := by decide +kernel
theorem dX0_copyFrom_58 : decode cX0_copyFrom 58 = .ok (.aload_n 0, 1) := by decide +kernel
theorem dX0_copyFrom_59 : decode cX0_copyFrom 59 = .ok (.getfield 21, 3) := by decide +kernel
theorem dX0_copyFrom_62 : decode cX0_copyFrom 62 = .ok (.iconst 0, 1) := by decide +kernel
theorem dX0_copyFrom_63 : decode cX0_copyFrom 63 = .ok (.bipush 10, 2) := by decide +kernel
theorem dX0_copyFrom_65 : decode cX0_copyFrom 65 = .ok (.invokestatic 40, 3) := by decide +kernel
theorem dX0_copyFrom_68 : decode cX0_copyFrom 68 = .ok (.aload_n 0, 1) := by decide +kernel
theorem dX0_copyFrom_69 : decode cX0_copyFrom 69 = .ok (.aload_n 1, 1) := by decide +kernel
theorem dX0_copyFrom_70 : decode cX0_copyFrom 70 = .ok (.getfield 46, 3) := by decide +kernel
theorem dX0_copyFrom_73 : decode cX0_copyFrom 73 = .ok (.putfield 46, 3) := by decide +kernel
theorem dX0_copyFrom_76 : decode cX0_copyFrom 76 = .ok (.aload_n 1, 1) := by decide +kernel
theorem dX0_copyFrom_77 : decode cX0_copyFrom 77 = .ok (.getfield 24, 3) := by decide +kernel
theorem dX0_copyFrom_80 : decode cX0_copyFrom 80 = .ok (.iconst 0, 1) := by decide +kernel
theorem dX0_copyFrom_81 : decode cX0_copyFrom 81 = .ok (.aload_n 0, 1) := by decide +kernel
theorem dX0_copyFrom_82 : decode cX0_copyFrom 82 = .ok (.getfield 24, 3) := by decide +kernel
theorem dX0_copyFrom_85 : decode cX0_copyFrom 85 = .ok (.iconst 0, 1) := by decide +kernel
theorem dX0_copyFrom_86 : decode cX0_copyFrom 86 = .ok (.iconst 4, 1) := by decide +kernel
theorem dX0_copyFrom_87 : decode cX0_copyFrom 87 = .ok (.invokestatic 40, 3) := by decide +kernel
theorem dX0_copyFrom_90 : decode cX0_copyFrom 90 = .ok (.aload_n 1, 1) := by decide +kernel
theorem dX0_copyFrom_91 : decode cX0_copyFrom 91 = .ok (.getfield 27, 3) := by decide +kernel
theorem dX0_copyFrom_94 : decode cX0_copyFrom 94 = .ok (.iconst 0, 1) := by decide +kernel
theorem dX0_copyFrom_95 : decode cX0_copyFrom 95 = .ok (.aload_n 0, 1) := by decide +kernel
theorem dX0_copyFrom_96 : decode cX0_copyFrom 96 = .ok (.getfield 27, 3) := by decide +kernel
theorem dX0_copyFrom_99 : decode cX0_copyFrom 99 = .ok (.iconst 0, 1) := by decide +kernel
theorem dX0_copyFrom_100 : decode cX0_copyFrom 100 = .ok (.iconst 4, 1) := by decide +kernel
theorem dX0_copyFrom_101 : decode cX0_copyFrom 101 = .ok (.invokestatic 40, 3) := by decide +kernel
theorem dX0_copyFrom_104 : decode cX0_copyFrom 104 = .ok (.aload_n 1, 1) := by decide +kernel
theorem dX0_copyFrom_105 : decode cX0_copyFrom 105 = .ok (.getfield 30, 3) := by decide +kernel
theorem dX0_copyFrom_108 : decode cX0_copyFrom 108 = .ok (.iconst 0, 1) := by decide +kernel
theorem dX0_copyFrom_109 : decode cX0_copyFrom 109 = .ok (.aload_n 0, 1) := by decide +kernel
theorem dX0_copyFrom_110 : decode cX0_copyFrom 110 = .ok (.getfield 30, 3) := by decide +kernel
theorem dX0_copyFrom_113 : decode cX0_copyFrom 113 = .ok (.iconst 0, 1) := by decide +kernel
theorem dX0_copyFrom_114 : decode cX0_copyFrom 114 = .ok (.iconst 4, 1) := by decide +kernel
theorem dX0_copyFrom_115 : decode cX0_copyFrom 115 = .ok (.invokestatic 40, 3) := by decide +kernel
theorem dX0_copyFrom_118 : decode cX0_copyFrom 118 = .ok (.aload_n 1, 1) := by decide +kernel
theorem dX0_copyFrom_119 : decode cX0_copyFrom 119 = .ok (.getfield 33, 3) := by decide +kernel
theorem dX0_copyFrom_122 : decode cX0_copyFrom 122 = .ok (.iconst 0, 1) := by decide +kernel
theorem dX0_copyFrom_123 : decode cX0_copyFrom 123 = .ok (.aload_n 0, 1) := by decide +kernel
theorem dX0_copyFrom_124 : decode cX0_copyFrom 124 = .ok (.getfield 33, 3) := by decide +kernel
theorem dX0_copyFrom_127 : decode cX0_copyFrom 127 = .ok (.iconst 0, 1) := by decide +kernel
theorem dX0_copyFrom_128 : decode cX0_copyFrom 128 = .ok (.iconst 3, 1) := by decide +kernel
theorem dX0_copyFrom_129 : decode cX0_copyFrom 129 = .ok (.invokestatic 40, 3) := by decide +kernel
theorem dX0_copyFrom_132 : decode cX0_copyFrom 132 = .ok (.return_, 1) := by decide +kernel
theorem dX0_hasRoomForRow_0 : decode cX0_hasRoomForRow 0 = .ok (.iconst 0, 1) := by decide +kernel
theorem dX0_hasRoomForRow_1 : decode cX0_hasRoomForRow 1 = .ok (.istore_n 2, 1) := by decide +kernel
theorem dX0_hasRoomForRow_2 : decode cX0_hasRoomForRow 2 = .ok (.iload_n 2, 1) := by decide +kernel
theorem dX0_hasRoomForRow_3 : decode cX0_hasRoomForRow 3 = .ok (.aload_n 0, 1) := by decide +kernel
theorem dX0_hasRoomForRow_4 : decode cX0_hasRoomForRow 4 = .ok (.getfield 36, 3) := by decide +kernel
theorem dX0_hasRoomForRow_7 : decode cX0_hasRoomForRow 7 = .ok (.if_icmp .ge 21, 3) := by decide +kernel
theorem dX0_hasRoomForRow_10 : decode cX0_hasRoomForRow 10 = .ok (.aload_n 0, 1) := by decide +kernel
theorem dX0_hasRoomForRow_11 : decode cX0_hasRoomForRow 11 = .ok (.getfield 9, 3) := by decide +kernel
theorem dX0_hasRoomForRow_14 : decode cX0_hasRoomForRow 14 = .ok (.iload_n 2, 1) := by decide +kernel
theorem dX0_hasRoomForRow_15 : decode cX0_hasRoomForRow 15 = .ok (.iaload, 1) := by decide +kernel
theorem dX0_hasRoomForRow_16 : decode cX0_hasRoomForRow 16 = .ok (.iload_n 1, 1) := by decide +kernel
theorem dX0_hasRoomForRow_17 : decode cX0_hasRoomForRow 17 = .ok (.if_icmp .ne 5, 3) := by decide +kernel
theorem dX0_hasRoomForRow_20 : decode cX0_hasRoomForRow 20 = .ok (.iconst 0, 1) := by decide +kernel
theorem dX0_hasRoomForRow_21 : decode cX0_hasRoomForRow 21 = .ok (.ireturn, 1) := by decide +kernel
theorem dX0_hasRoomForRow_22 : decode cX0_hasRoomForRow 22 = .ok (.iinc 2 1, 3) := by decide +kernel
theorem dX0_hasRoomForRow_25 : decode cX0_hasRoomForRow 25 = .ok (.goto (-23), 3) := by decide +kernel
theorem dX0_hasRoomForRow_28 : decode cX0_hasRoomForRow 28 = .ok (.aload_n 0, 1) := by decide +kernel
theorem dX0_hasRoomForRow_29 : decode cX0_hasRoomForRow 29 = .ok (.getfield 36, 3) := by decide +kernel
theorem dX0_hasRoomForRow_32 : decode cX0_hasRoomForRow 32 = .ok (.bipush 10, 2) := by decide +kernel
theorem dX0_hasRoomForRow_34 : decode cX0_hasRoomForRow 34 = .ok (.if_icmp .ge 7, 3) := by decide +kernel
theorem dX0_hasRoomForRow_37 : decode cX0_hasRoomForRow 37 = .ok (.iconst 1, 1) := by decide +kernel
theorem dX0_hasRoomForRow_38 : decode cX0_hasRoomForRow 38 = .ok (.goto 4, 3) := by decide +kernel
theorem dX0_hasRoomForRow_41 : decode cX0_hasRoomForRow 41 = .ok (.iconst 0, 1) := by decide +kernel
theorem dX0_hasRoomForRow_42 : decode cX0_hasRoomForRow 42 = .ok (.ireturn, 1) := by decide +kernel
set_option maxRecDepth 20000 in
theorem ggX0_insertRow_X0_moveRow : GoodIn wsX0_insertRow wsX0_moveRow := goodIn_r _ [10, 2, 3, 4, 5, 11, 12, 13, 14, 15, 16, 17, 18, 19, 20] (by decide +kernel) (by decide +kernel)
set_option maxRecDepth 20000 in
theorem gX0_insertRow_X0_moveRow : GoodIn wsX0_insertRow (wsV RX0 49 RX0 yX0_moveRow wsX0_moveRow) := goodIn_app (goodIn_of _ (by decide +kernel)) ggX0_insertRow_X0_moveRow
theorem dX0_insertRow_0 : decode cX0_insertRow 0 = .ok (.aload_n 0, 1) := by decide +kernel
theorem dX0_insertRow_1 : decode cX0_insertRow 1 = .ok (.getfield 36, 3) := by decide +kernel
theorem dX0_insertRow_4 : decode cX0_insertRow 4 = .ok (.istore 4, 2) := by decide +kernel
theorem dX0_insertRow_6 : decode cX0_insertRow 6 = .ok (.iload 4, 2) := by decide +kernel
theorem dX0_insertRow_8 : decode cX0_insertRow 8 = .ok (.ifCond .le 32, 3) := by decide +kernel
theorem dX0_insertRow_11 : decode cX0_insertRow 11 = .ok (.aload_n 0, 1) := by decide +kernel
theorem dX0_insertRow_12 : decode cX0_insertRow 12 = .ok (.getfield 9, 3) := by decide +kernel
theorem dX0_insertRow_15 : decode cX0_insertRow 15 = .ok (.iload 4, 2) := by decide +kernel
theorem dX0_insertRow_17 : decode cX0_insertRow 17 = .ok (.iconst 1, 1) := by decide +kernel
theorem dX0_insertRow_18 : decode cX0_insertRow 18 = .ok (.isub, 1) := by decide +kernel
theorem dX0_insertRow_19 : decode cX0_insertRow 19 = .ok (.iaload, 1) := by decide +kernel
theorem dX0_insertRow_20 : decode cX0_insertRow 20 = .ok (.iload_n 1, 1) := by decide +kernel
theorem dX0_insertRow_21 : decode cX0_insertRow 21 = .ok (.if_icmp .le 19, 3) := by decide +kernel
theorem dX0_insertRow_24 : decode cX0_insertRow 24 = .ok (.aload_n 0, 1) := by decide +kernel
theorem dX0_insertRow_25 : decode cX0_insertRow 25 = .ok (.iload 4, 2) := by decide +kernel
theorem dX0_insertRow_27 : decode cX0_insertRow 27 = .ok (.iconst 1, 1) := by decide +kernel
theorem dX0_insertRow_28 : decode cX0_insertRow 28 = .ok (.isub, 1) := by decide +kernel
theorem dX0_insertRow_29 : decode cX0_insertRow 29 = .ok (.iload 4, 2) := by decide +kernel
theorem dX0_insertRow_31 : decode cX0_insertRow 31 = .ok (.invokevirtual 49, 3) := by decide +kernel
theorem dX0_insertRow_34 : decode cX0_insertRow 34 = .ok (.iinc 4 (-1), 3) := by decide +kernel
theorem dX0_insertRow_37 : decode cX0_insertRow 37 = .ok (.goto (-31), 3) := by decide +kernel
theorem dX0_insertRow_40 : decode cX0_insertRow 40 = .ok (.aload_n 0, 1) := by decide +kernel
theorem dX0_insertRow_41 : decode cX0_insertRow 41 = .ok (.getfield 9, 3) := by decide +kernel
theorem dX0_insertRow_44 : decode cX0_insertRow 44 = .ok (.iload 4, 2) := by decide +kernel
theorem dX0_insertRow_46 : decode cX0_insertRow 46 = .ok (.iload_n 1, 1) := by decide +kernel
theorem dX0_insertRow_47 : decode cX0_insertRow 47 = .ok (.iastore, 1) := by decide +kernel
theorem dX0_insertRow_48 : decode cX0_insertRow 48 = .ok (.aload_n 0, 1) := by decide +kernel
theorem dX0_insertRow_49 : decode cX0_insertRow 49 = .ok (.getfield 15, 3) := by decide +kernel
theorem dX0_insertRow_52 : decode cX0_insertRow 52 = .ok (.iload 4, 2) := by decide +kernel
theorem dX0_insertRow_54 : decode cX0_insertRow 54 = .ok (.iload_n 2, 1) := by decide +kernel
theorem dX0_insertRow_55 : decode cX0_insertRow 55 = .ok (.iastore, 1) := by decide +kernel
theorem dX0_insertRow_56 : decode cX0_insertRow 56 = .ok (.aload_n 0, 1) := by decide +kernel
theorem dX0_insertRow_57 : decode cX0_insertRow 57 = .ok (.getfield 18, 3) := by decide +kernel
theorem dX0_insertRow_60 : decode cX0_insertRow 60 = .ok (.iload 4, 2) := by decide +kernel
theorem dX0_insertRow_62 : decode cX0_insertRow 62 = .ok (.iload_n 3, 1) := by decide +kernel
theorem dX0_insertRow_63 : decode cX0_insertRow 63 = .ok (.iastore, 1) := by decide +kernel
theorem dX0_insertRow_64 : decode cX0_insertRow 64 = .ok (.aload_n 0, 1) := by decide +kernel
theorem dX0_insertRow_65 : decode cX0_insertRow 65 = .ok (.getfield 21, 3) := by decide +kernel
theorem dX0_insertRow_68 : decode cX0_insertRow 68 = .ok (.iload 4, 2) := by decide +kernel
theorem dX0_insertRow_70 : decode cX0_insertRow 70 = .ok (.iconst 0, 1) := by decide +kernel
theorem dX0_insertRow_71 : decode cX0_insertRow 71 = .ok (.iastore, 1) := by decide +kernel
theorem dX0_insertRow_72 : decode cX0_insertRow 72 = .ok (.aload_n 0, 1) := by decide +kernel
theorem dX0_insertRow_73 : decode cX0_insertRow 73 = .ok (.dup, 1) := by decide +kernel
theorem dX0_insertRow_74 : decode cX0_insertRow 74 = .ok (.getfield 36, 3) := by decide +kernel
theorem dX0_insertRow_77 : decode cX0_insertRow 77 = .ok (.iconst 1, 1) := by decide +kernel
theorem dX0_insertRow_78 : decode cX0_insertRow 78 = .ok (.iadd, 1) := by decide +kernel
theorem dX0_insertRow_79 : decode cX0_insertRow 79 = .ok (.putfield 36, 3) := by decide +kernel
theorem dX0_insertRow_82 : decode cX0_insertRow 82 = .ok (.iload 4, 2) := by decide +kernel
theorem dX0_insertRow_84 : decode cX0_insertRow 84 = .ok (.ireturn, 1) := by decide +kernel
set_option maxRecDepth 20000 in
theorem ggX0_deleteRow_X0_moveRow : GoodIn wsX0_deleteRow wsX0_moveRow := goodIn_r _ [6, 7, 8, 9, 10, 11, 12, 13, 14, 15, 16, 17, 18, 19, 20] (by decide +kernel) (by decide +kernel)
set_option maxRecDepth 20000 in
theorem gX0_deleteRow_X0_moveRow : GoodIn wsX0_deleteRow (wsV RX0 49 RX0 yX0_moveRow wsX0_moveRow) := goodIn_app (goodIn_of _ (by decide +kernel)) ggX0_deleteRow_X0_moveRow
theorem dX0_deleteRow_0 : decode cX0_deleteRow 0 = .ok (.iload_n 1, 1) := by decide +kernel
theorem dX0_deleteRow_1 : decode cX0_deleteRow 1 = .ok (.iconst 1, 1) := by decide +kernel
theorem dX0_deleteRow_2 : decode cX0_deleteRow 2 = .ok (.iadd, 1) := by decide +kernel
theorem dX0_deleteRow_3 : decode cX0_deleteRow 3 = .ok (.istore_n 2, 1) := by decide +kernel
theorem dX0_deleteRow_4 : decode cX0_deleteRow 4 = .ok (.iload_n 2, 1) := by decide +kernel
theorem dX0_deleteRow_5 : decode cX0_deleteRow 5 = .ok (.aload_n 0, 1) := by decide +kernel
theorem dX0_deleteRow_6 : decode cX0_deleteRow 6 = .ok (.getfield 36, 3) := by decide +kernel
theorem dX0_deleteRow_9 : decode cX0_deleteRow 9 = .ok (.if_icmp .ge 17, 3) := by decide +kernel
theorem dX0_deleteRow_12 : decode cX0_deleteRow 12 = .ok (.aload_n 0, 1) := by decide +kernel
theorem dX0_deleteRow_13 : decode cX0_deleteRow 13 = .ok (.iload_n 2, 1) := by decide +kernel
theorem dX0_deleteRow_14 : decode cX0_deleteRow 14 = .ok (.iload_n 2, 1) := by decide +kernel
theorem dX0_deleteRow_15 : decode cX0_deleteRow 15 = .ok (.iconst 1, 1) := by decide +kernel
theorem dX0_deleteRow_16 : decode cX0_deleteRow 16 = .ok (.isub, 1) := by decide +kernel
theorem dX0_deleteRow_17 : decode cX0_deleteRow 17 = .ok (.invokevirtual 49, 3) := by decide +kernel
theorem dX0_deleteRow_20 : decode cX0_deleteRow 20 = .ok (.iinc 2 1, 3) := by decide +kernel
theorem dX0_deleteRow_23 : decode cX0_deleteRow 23 = .ok (.goto (-19), 3) := by decide +kernel
theorem dX0_deleteRow_26 : decode cX0_deleteRow 26 = .ok (.aload_n 0, 1) := by decide +kernel
theorem dX0_deleteRow_27 : decode cX0_deleteRow 27 = .ok (.dup, 1) := by decide +kernel
theorem dX0_deleteRow_28 : decode cX0_deleteRow 28 = .ok (.getfield 36, 3) := by decide +kernel
theorem dX0_deleteRow_31 : decode cX0_deleteRow 31 = .ok (.iconst 1, 1) := by decide +kernel
theorem dX0_deleteRow_32 : decode cX0_deleteRow 32 = .ok (.isub, 1) := by decide +kernel
theorem dX0_deleteRow_33 : decode cX0_deleteRow 33 = .ok (.putfield 36, 3) := by decide +kernel
theorem dX0_deleteRow_36 : decode cX0_deleteRow 36 = .ok (.return_, 1) := by decide +kernel
theorem dX0_moveRow_0 : decode cX0_moveRow 0 = .ok (.aload_n 0, 1) := by decide +kernel
theorem dX0_moveRow_1 : decode cX0_moveRow 1 = .ok (.getfield 9, 3) := by decide +kernel
theorem dX0_moveRow_4 : decode cX0_moveRow 4 = .ok (.iload_n 2, 1) := by decide +kernel
theorem dX0_moveRow_5 : decode cX0_moveRow 5 = .ok (.aload_n 0, 1) := by decide +kernel
theorem dX0_moveRow_6 : decode cX0_moveRow 6 = .ok (.getfield 9, 3) := by decide +kernel
theorem dX0_moveRow_9 : decode cX0_moveRow 9 = .ok (.iload_n 1, 1) := by decide +kernel
theorem dX0_moveRow_10 : decode cX0_moveRow 10 = .ok (.iaload, 1) := by decide +kernel
theorem dX0_moveRow_11 : decode cX0_moveRow 11 = .ok (.iastore, 1) := by decide +kernel
theorem dX0_moveRow_12 : decode cX0_moveRow 12 = .ok (.aload_n 0, 1) := by decide +kernel
theorem dX0_moveRow_13 : decode cX0_moveRow 13 = .ok (.getfield 15, 3) := by decide +kernel
theorem dX0_moveRow_16 : decode cX0_moveRow 16 = .ok (.iload_n 2, 1) := by decide +kernel
theorem dX0_moveRow_17 : decode cX0_moveRow 17 = .ok (.aload_n 0, 1) := by decide +kernel
theorem dX0_moveRow_18 : decode cX0_moveRow 18 = .ok (.getfield 15, 3) := by decide +kernel
theorem dX0_moveRow_21 : decode cX0_moveRow 21 = .ok (.iload_n 1, 1) := by decide +kernel
theorem dX0_moveRow_22 : decode cX0_moveRow 22 = .ok (.iaload, 1) := by decide +kernel
theorem dX0_moveRow_23 : decode cX0_moveRow 23 = .ok (.iastore, 1) := by decide +kernel
theorem dX0_moveRow_24 : decode cX0_moveRow 24 = .ok (.aload_n 0, 1) := by decide +kernel
theorem dX0_moveRow_25 : decode cX0_moveRow 25 = .ok (.getfield 18, 3) := by decide +kernel
theorem dX0_moveRow_28 : decode cX0_moveRow 28 = .ok (.iload_n 2, 1) := by decide +kernel
theorem dX0_moveRow_29 : decode cX0_moveRow 29 = .ok (.aload_n 0, 1) := by decide +kernel
theorem dX0_moveRow_30 : decode cX0_moveRow 30 = .ok (.getfield 18, 3) := by decide +kernel
theorem dX0_moveRow_33 : decode cX0_moveRow 33 = .ok (.iload_n 1, 1) := by decide +kernel
theorem dX0_moveRow_34 : decode cX0_moveRow 34 = .ok (.iaload, 1) := by decide +kernel
theorem dX0_moveRow_35 : decode cX0_moveRow 35 = .ok (.iastore, 1) := by decide +kernel
theorem dX0_moveRow_36 : decode cX0_moveRow 36 = .ok (.aload_n 0, 1) := by decide +kernel
theorem dX0_moveRow_37 : decode cX0_moveRow 37 = .ok (.getfield 21, 3) := by decide +kernel
theorem dX0_moveRow_40 : decode cX0_moveRow 40 = .ok (.iload_n 2, 1) := by decide +kernel
theorem dX0_moveRow_41 : decode cX0_moveRow 41 = .ok (.aload_n 0, 1) := by decide +kernel
theorem dX0_moveRow_42 : decode cX0_moveRow 42 = .ok (.getfield 21, 3) := by decide +kernel
theorem dX0_moveRow_45 : decode cX0_moveRow 45 = .ok (.iload_n 1, 1) := by decide +kernel
theorem dX0_moveRow_46 : decode cX0_moveRow 46 = .ok (.iaload, 1) := by decide +kernel
theorem dX0_moveRow_47 : decode cX0_moveRow 47 = .ok (.iastore, 1) := by decide +kernel
theorem dX0_moveRow_48 : decode cX0_moveRow 48 = .ok (.return_, 1) := by decide +kernel
theorem dX0_insertColumn_0 : decode cX0_insertColumn 0 = .ok (.aload_n 0, 1) := by decide +kernel
theorem dX0_insertColumn_1 : decode cX0_insertColumn 1 = .ok (.getfield 24, 3) := by decide +kernel
theorem dX0_insertColumn_4 : decode cX0_insertColumn 4 = .ok (.aload_n 0, 1) := by decide +kernel
theorem dX0_insertColumn_5 : decode cX0_insertColumn 5 = .ok (.getfield 46, 3) := by decide +kernel
theorem dX0_insertColumn_8 : decode cX0_insertColumn 8 = .ok (.iload_n 1, 1) := by decide +kernel
theorem dX0_insertColumn_9 : decode cX0_insertColumn 9 = .ok (.iastore, 1) := by decide +kernel
theorem dX0_insertColumn_10 : decode cX0_insertColumn 10 = .ok (.aload_n 0, 1) := by decide +kernel
theorem dX0_insertColumn_11 : decode cX0_insertColumn 11 = .ok (.getfield 27, 3) := by decide +kernel
theorem dX0_insertColumn_14 : decode cX0_insertColumn 14 = .ok (.aload_n 0, 1) := by decide +kernel
theorem dX0_insertColumn_15 : decode cX0_insertColumn 15 = .ok (.getfield 46, 3) := by decide +kernel
theorem dX0_insertColumn_18 : decode cX0_insertColumn 18 = .ok (.iload_n 2, 1) := by decide +kernel
theorem dX0_insertColumn_19 : decode cX0_insertColumn 19 = .ok (.iastore, 1) := by decide +kernel
theorem dX0_insertColumn_20 : decode cX0_insertColumn 20 = .ok (.aload_n 0, 1) := by decide +kernel
theorem dX0_insertColumn_21 : decode cX0_insertColumn 21 = .ok (.getfield 30, 3) := by decide +kernel
theorem dX0_insertColumn_24 : decode cX0_insertColumn 24 = .ok (.aload_n 0, 1) := by decide +kernel
theorem dX0_insertColumn_25 : decode cX0_insertColumn 25 = .ok (.getfield 46, 3) := by decide +kernel
theorem dX0_insertColumn_28 : decode cX0_insertColumn 28 = .ok (.iload_n 3, 1) := by decide +kernel
theorem dX0_insertColumn_29 : decode cX0_insertColumn 29 = .ok (.iastore, 1) := by decide +kernel
theorem dX0_insertColumn_30 : decode cX0_insertColumn 30 = .ok (.aload_n 0, 1) := by decide +kernel
theorem dX0_insertColumn_31 : decode cX0_insertColumn 31 = .ok (.dup, 1) := by decide +kernel
theorem dX0_insertColumn_32 : decode cX0_insertColumn 32 = .ok (.getfield 46, 3) := by decide +kernel
theorem dX0_insertColumn_35 : decode cX0_insertColumn 35 = .ok (.iconst 1, 1) := by decide +kernel
theorem dX0_insertColumn_36 : decode cX0_insertColumn 36 = .ok (.iadd, 1) := by decide +kernel
theorem dX0_insertColumn_37 : decode cX0_insertColumn 37 = .ok (.putfield 46, 3) := by decide +kernel
theorem dX0_insertColumn_40 : decode cX0_insertColumn 40 = .ok (.aload_n 0, 1) := by decide +kernel
theorem dX0_insertColumn_41 : decode cX0_insertColumn 41 = .ok (.getfield 46, 3) := by decide +kernel
theorem dX0_insertColumn_44 : decode cX0_insertColumn 44 = .ok (.iconst 1, 1) := by decide +kernel
theorem dX0_insertColumn_45 : decode cX0_insertColumn 45 = .ok (.isub, 1) := by decide +kernel
theorem dX0_insertColumn_46 : decode cX0_insertColumn 46 = .ok (.ireturn, 1) := by decide +kernel
theorem dX0_deleteColumn_0 : decode cX0_deleteColumn 0 = .ok (.iload_n 1, 1) := by decide +kernel
theorem dX0_deleteColumn_1 : decode cX0_deleteColumn 1 = .ok (.iconst 1, 1) := by decide +kernel
theorem dX0_deleteColumn_2 : decode cX0_deleteColumn 2 = .ok (.iadd, 1) := by decide +kernel
theorem dX0_deleteColumn_3 : decode cX0_deleteColumn 3 = .ok (.istore_n 2, 1) := by decide +kernel
theorem dX0_deleteColumn_4 : decode cX0_deleteColumn 4 = .ok (.iload_n 2, 1) := by decide +kernel
theorem dX0_deleteColumn_5 : decode cX0_deleteColumn 5 = .ok (.aload_n 0, 1) := by decide +kernel
theorem dX0_deleteColumn_6 : decode cX0_deleteColumn 6 = .ok (.getfield 46, 3) := by decide +kernel
theorem dX0_deleteColumn_9 : decode cX0_deleteColumn 9 = .ok (.if_icmp .ge 51, 3) := by decide +kernel
theorem dX0_deleteColumn_12 : decode cX0_deleteColumn 12 = .ok (.aload_n 0, 1) := by decide +kernel
theorem dX0_deleteColumn_13 : decode cX0_deleteColumn 13 = .ok (.getfield 24, 3) := by decide +kernel
theorem dX0_deleteColumn_16 : decode cX0_deleteColumn 16 = .ok (.iload_n 2, 1) := by decide +kernel
theorem dX0_deleteColumn_17 : decode cX0_deleteColumn 17 = .ok (.iconst 1, 1) := by decide +kernel
theorem dX0_deleteColumn_18 : decode cX0_deleteColumn 18 = .ok (.isub, 1) := by decide +kernel
theorem dX0_deleteColumn_19 : decode cX0_deleteColumn 19 = .ok (.aload_n 0, 1) := by decide +kernel
theorem dX0_deleteColumn_20 : decode cX0_deleteColumn 20 = .ok (.getfield 24, 3) := by decide +kernel
theorem dX0_deleteColumn_23 : decode cX0_deleteColumn 23 = .ok (.iload_n 2, 1) := by decide +kernel
theorem dX0_deleteColumn_24 : decode cX0_deleteColumn 24 = .ok (.iaload, 1) := by decide +kernel
theorem dX0_deleteColumn_25 : decode cX0_deleteColumn 25 = .ok (.iastore, 1) := by decide +kernel
theorem dX0_deleteColumn_26 : decode cX0_deleteColumn 26 = .ok (.aload_n 0, 1) := by decide +kernel
theorem dX0_deleteColumn_27 : decode cX0_deleteColumn 27 = .ok (.getfield 27, 3) := by decide +kernel
theorem dX0_deleteColumn_30 : decode cX0_deleteColumn 30 = .ok (.iload_n 2, 1) := by decide +kernel
theorem dX0_deleteColumn_31 : decode cX0_deleteColumn 31 = .ok (.iconst 1, 1) := by decide +kernel
theorem dX0_deleteColumn_32 : decode cX0_deleteColumn 32 = .ok (.isub, 1) := by decide +kernel
theorem dX0_deleteColumn_33 : decode cX0_deleteColumn 33 = .ok (.aload_n 0, 1) := by decide +kernel
theorem dX0_deleteColumn_34 : decode cX0_deleteColumn 34 = .ok (.getfield 27, 3) := by decide +kernel
theorem dX0_deleteColumn_37 : decode cX0_deleteColumn 37 = .ok (.iload_n 2, 1) := by decide +kernel
theorem dX0_deleteColumn_38 : decode cX0_deleteColumn 38 = .ok (.iaload, 1) := by decide +kernel
theorem dX0_deleteColumn_39 : decode cX0_deleteColumn 39 = .ok (.iastore, 1) := by decide +kernel
theorem dX0_deleteColumn_40 : decode cX0_deleteColumn 40 = .ok (.aload_n 0, 1) := by decide +kernel
theorem dX0_deleteColumn_41 : decode cX0_deleteColumn 41 = .ok (.getfield 30, 3) := by decide +kernel
theorem dX0_deleteColumn_44 : decode cX0_deleteColumn 44 = .ok (.iload_n 2, 1) := by decide +kernel
theorem dX0_deleteColumn_45 : decode cX0_deleteColumn 45 = .ok (.iconst 1, 1) := by decide +kernel
theorem dX0_deleteColumn_46 : decode cX0_deleteColumn 46 = .ok (.isub, 1) := by decide +kernel
theorem dX0_deleteColumn_47 : decode cX0_deleteColumn 47 = .ok (.aload_n 0, 1) := by decide +kernel
theorem dX0_deleteColumn_48 : decode cX0_deleteColumn 48 = .ok (.getfield 30, 3) := by decide +kernel
theorem dX0_deleteColumn_51 : decode cX0_deleteColumn 51 = .ok (.iload_n 2, 1) := by decide +kernel
theorem dX0_deleteColumn_52 : decode cX0_deleteColumn 52 = .ok (.iaload, 1) := by decide +kernel
theorem dX0_deleteColumn_53 : decode cX0_deleteColumn 53 = .ok (.iastore, 1) := by decide +kernel
theorem dX0_deleteColumn_54 : decode cX0_deleteColumn 54 = .ok (.iinc 2 1, 3) := by decide +kernel
theorem dX0_deleteColumn_57 : decode cX0_deleteColumn 57 = .ok (.goto (-53), 3) := by decide +kernel
theorem dX0_deleteColumn_60 : decode cX0_deleteColumn 60 = .ok (.aload_n 0, 1) := by decide +kernel
theorem dX0_deleteColumn_61 : decode cX0_deleteColumn 61 = .ok (.dup, 1) := by decide +kernel
theorem dX0_deleteColumn_62 : decode cX0_deleteColumn 62 = .ok (.getfield 46, 3) := by decide +kernel
theorem dX0_deleteColumn_65 : decode cX0_deleteColumn 65 = .ok (.iconst 1, 1) := by decide +kernel
theorem dX0_deleteColumn_66 : decode cX0_deleteColumn 66 = .ok (.isub, 1) := by decide +kernel
theorem dX0_deleteColumn_67 : decode cX0_deleteColumn 67 = .ok (.putfield 46, 3) := by decide +kernel
theorem dX0_deleteColumn_70 : decode cX0_deleteColumn 70 = .ok (.return_, 1) := by decide +kernel
theorem dX0_isTaken_0 : decode cX0_isTaken 0 = .ok (.aload_n 0, 1) := by decide +kernel
theorem dX0_isTaken_1 : decode cX0_isTaken 1 = .ok (.getfield 21, 3) := by decide +kernel
theorem dX0_isTaken_4 : decode cX0_isTaken 4 = .ok (.iload_n 1, 1) := by decide +kernel
theorem dX0_isTaken_5 : decode cX0_isTaken 5 = .ok (.iaload, 1) := by decide +kernel
theorem dX0_isTaken_6 : decode cX0_isTaken 6 = .ok (.iload_n 2, 1) := by decide +kernel
theorem dX0_isTaken_7 : decode cX0_isTaken 7 = .ok (.ishr, 1) := by decide +kernel
theorem dX0_isTaken_8 : decode cX0_isTaken 8 = .ok (.iconst 1, 1) := by decide +kernel
theorem dX0_isTaken_9 : decode cX0_isTaken 9 = .ok (.iand, 1) := by decide +kernel
theorem dX0_isTaken_10 : decode cX0_isTaken 10 = .ok (.iconst 1, 1) := by decide +kernel
theorem dX0_isTaken_11 : decode cX0_isTaken 11 = .ok (.if_icmp .ne 7, 3) := by decide +kernel
theorem dX0_isTaken_14 : decode cX0_isTaken 14 = .ok (.iconst 1, 1) := by decide +kernel
theorem dX0_isTaken_15 : decode cX0_isTaken 15 = .ok (.goto 4, 3) := by decide +kernel
theorem dX0_isTaken_18 : decode cX0_isTaken 18 = .ok (.iconst 0, 1) := by decide +kernel
theorem dX0_isTaken_19 : decode cX0_isTaken 19 = .ok (.ireturn, 1) := by decide +kernel
set_option maxRecDepth 20000 in
theorem ggX0_areFree_X0_bitsOf : GoodIn wsX0_areFree wsX0_bitsOf := goodIn_r _ [5] (by decide +kernel) (by decide +kernel)
set_option maxRecDepth 20000 in
theorem gX0_areFree_X0_bitsOf : GoodIn wsX0_areFree (va_wsS RX0 53 yX0_bitsOf wsX0_bitsOf) := goodIn_app (goodIn_of _ (by decide +kernel)) ggX0_areFree_X0_bitsOf
theorem dX0_areFree_0 : decode cX0_areFree 0 = .ok (.aload_n 0, 1) := by decide +kernel
theorem dX0_areFree_1 : decode cX0_areFree 1 = .ok (.getfield 21, 3) := by decide +kernel
theorem dX0_areFree_4 : decode cX0_areFree 4 = .ok (.iload_n 1, 1) := by decide +kernel
theorem dX0_areFree_5 : decode cX0_areFree 5 = .ok (.iaload, 1) := by decide +kernel
theorem dX0_areFree_6 : decode cX0_areFree 6 = .ok (.iload_n 2, 1) := by decide +kernel
theorem dX0_areFree_7 : decode cX0_areFree 7 = .ok (.iload_n 3, 1) := by decide +kernel
theorem dX0_areFree_8 : decode cX0_areFree 8 = .ok (.invokestatic 53, 3) := by decide +kernel
theorem dX0_areFree_11 : decode cX0_areFree 11 = .ok (.iand, 1) := by decide +kernel
theorem dX0_areFree_12 : decode cX0_areFree 12 = .ok (.ifCond .ne 7, 3) := by decide +kernel
theorem dX0_areFree_15 : decode cX0_areFree 15 = .ok (.iconst 1, 1) := by decide +kernel
theorem dX0_areFree_16 : decode cX0_areFree 16 = .ok (.goto 4, 3) := by decide +kernel
theorem dX0_areFree_19 : decode cX0_areFree 19 = .ok (.iconst 0, 1) := by decide +kernel
theorem dX0_areFree_20 : decode cX0_areFree 20 = .ok (.ireturn, 1) := by decide +kernel
set_option maxRecDepth 20000 in
theorem ggX0_occupy_X0_bitsOf : GoodIn wsX0_occupy wsX0_bitsOf := goodIn_r _ [5] (by decide +kernel) (by decide +kernel)
set_option maxRecDepth 20000 in
theorem gX0_occupy_X0_bitsOf : GoodIn wsX0_occupy (va_wsS RX0 53 yX0_bitsOf wsX0_bitsOf) := goodIn_app (goodIn_of _ (by decide +kernel)) ggX0_occupy_X0_bitsOf
theorem dX0_occupy_0 : decode cX0_occupy 0 = .ok (.aload_n 0, 1) := by decide +kernel
theorem dX0_occupy_1 : decode cX0_occupy 1 = .ok (.getfield 21, 3) := by decide +kernel
theorem dX0_occupy_4 : decode cX0_occupy 4 = .ok (.iload_n 1, 1) := by decide +kernel
theorem dX0_occupy_5 : decode cX0_occupy 5 = .ok (.aload_n 0, 1) := by decide +kernel
theorem dX0_occupy_6 : decode cX0_occupy 6 = .ok (.getfield 21, 3) := by decide +kernel
theorem dX0_occupy_9 : decode cX0_occupy 9 = .ok (.iload_n 1, 1) := by decide +kernel
theorem dX0_occupy_10 : decode cX0_occupy 10 = .ok (.iaload, 1) := by decide +kernel
theorem dX0_occupy_11 : decode cX0_occupy 11 = .ok (.iload_n 2, 1) := by decide +kernel
theorem dX0_occupy_12 : decode cX0_occupy 12 = .ok (.iload_n 3, 1) := by decide +kernel
theorem dX0_occupy_13 : decode cX0_occupy 13 = .ok (.invokestatic 53, 3) := by decide +kernel
theorem dX0_occupy_16 : decode cX0_occupy 16 = .ok (.ior, 1) := by decide +kernel
theorem dX0_occupy_17 : decode cX0_occupy 17 = .ok (.iastore, 1) := by decide +kernel
theorem dX0_occupy_18 : decode cX0_occupy 18 = .ok (.return_, 1) := by decide +kernel
set_option maxRecDepth 20000 in
theorem ggX0_vacate_X0_bitsOf : GoodIn wsX0_vacate wsX0_bitsOf := goodIn_r _ [5] (by decide +kernel) (by decide +kernel)
set_option maxRecDepth 20000 in
theorem gX0_vacate_X0_bitsOf : GoodIn wsX0_vacate (va_wsS RX0 53 yX0_bitsOf wsX0_bitsOf) := goodIn_app (goodIn_of _ (by decide +kernel)) ggX0_vacate_X0_bitsOf
theorem dX0_vacate_0 : decode cX0_vacate 0 = .ok (.aload_n 0, 1) := by decide +kernel
theorem dX0_vacate_1 : decode cX0_vacate 1 = .ok (.getfield 21, 3) := by decide +kernel
theorem dX0_vacate_4 : decode cX0_vacate 4 = .ok (.iload_n 1, 1) := by decide +kernel
theorem dX0_vacate_5 : decode cX0_vacate 5 = .ok (.aload_n 0, 1) := by decide +kernel
theorem dX0_vacate_6 : decode cX0_vacate 6 = .ok (.getfield 21, 3) := by decide +kernel
theorem dX0_vacate_9 : decode cX0_vacate 9 = .ok (.iload_n 1, 1) := by decide +kernel
theorem dX0_vacate_10 : decode cX0_vacate 10 = .ok (.iaload, 1) := by decide +kernel
theorem dX0_vacate_11 : decode cX0_vacate 11 = .ok (.iload_n 2, 1) := by decide +kernel
theorem dX0_vacate_12 : decode cX0_vacate 12 = .ok (.iconst 1, 1) := by decide +kernel
theorem dX0_vacate_13 : decode cX0_vacate 13 = .ok (.invokestatic 53, 3) := by decide +kernel
theorem dX0_vacate_16 : decode cX0_vacate 16 = .ok (.iconst (-1), 1) := by decide +kernel
theorem dX0_vacate_17 : decode cX0_vacate 17 = .ok (.ixor, 1) := by decide +kernel
theorem dX0_vacate_18 : decode cX0_vacate 18 = .ok (.iand, 1) := by decide +kernel
theorem dX0_vacate_19 : decode cX0_vacate 19 = .ok (.iastore, 1) := by decide +kernel
theorem dX0_vacate_20 : decode cX0_vacate 20 = .ok (.return_, 1) := by decide +kernel
theorem dX0_vacateAll_0 : decode cX0_vacateAll 0 = .ok (.iconst 0, 1) := by decide +kernel
theorem dX0_vacateAll_1 : decode cX0_vacateAll 1 = .ok (.istore_n 1, 1) := by decide +kernel
theorem dX0_vacateAll_2 : decode cX0_vacateAll 2 = .ok (.iload_n 1, 1) := by decide +kernel
theorem dX0_vacateAll_3 : decode cX0_vacateAll 3 = .ok (.aload_n 0, 1) := by decide +kernel
theorem dX0_vacateAll_4 : decode cX0_vacateAll 4 = .ok (.getfield 36, 3) := by decide +kernel
theorem dX0_vacateAll_7 : decode cX0_vacateAll 7 = .ok (.if_icmp .ge 16, 3) := by decide +kernel
theorem dX0_vacateAll_10 : decode cX0_vacateAll 10 = .ok (.aload_n 0, 1) := by decide +kernel
theorem dX0_vacateAll_11 : decode cX0_vacateAll 11 = .ok (.getfield 21, 3) := by decide +kernel
theorem dX0_vacateAll_14 : decode cX0_vacateAll 14 = .ok (.iload_n 1, 1) := by decide +kernel
theorem dX0_vacateAll_15 : decode cX0_vacateAll 15 = .ok (.iconst 0, 1) := by decide +kernel
theorem dX0_vacateAll_16 : decode cX0_vacateAll 16 = .ok (.iastore, 1) := by decide +kernel
theorem dX0_vacateAll_17 : decode cX0_vacateAll 17 = .ok (.iinc 1 1, 3) := by decide +kernel
theorem dX0_vacateAll_20 : decode cX0_vacateAll 20 = .ok (.goto (-18), 3) := by decide +kernel
theorem dX0_vacateAll_23 : decode cX0_vacateAll 23 = .ok (.return_, 1) := by decide +kernel
theorem dX0_bitsOf_0 : decode cX0_bitsOf 0 = .ok (.iconst 1, 1) := by decide +kernel
theorem dX0_bitsOf_1 : decode cX0_bitsOf 1 = .ok (.iload_n 1, 1) := by decide +kernel
theorem dX0_bitsOf_2 : decode cX0_bitsOf 2 = .ok (.ishl, 1) := by decide +kernel
theorem dX0_bitsOf_3 : decode cX0_bitsOf 3 = .ok (.iconst 1, 1) := by decide +kernel
theorem dX0_bitsOf_4 : decode cX0_bitsOf 4 = .ok (.isub, 1) := by decide +kernel
theorem dX0_bitsOf_5 : decode cX0_bitsOf 5 = .ok (.iload_n 0, 1) := by decide +kernel
theorem dX0_bitsOf_6 : decode cX0_bitsOf 6 = .ok (.ishl, 1) := by decide +kernel
theorem dX0_bitsOf_7 : decode cX0_bitsOf 7 = .ok (.ireturn, 1) := by decide +kernel
set_option maxRecDepth 20000 in
theorem ggX0_takenInRow_J6_bitCount_0f7a4 : GoodIn wsX0_takenInRow wsJ6_bitCount_0f7a4 := goodIn_r _ [5, 6, 7, 8] (by decide +kernel) (by decide +kernel)
set_option maxRecDepth 20000 in
theorem gX0_takenInRow_J6_bitCount_0f7a4 : GoodIn wsX0_takenInRow (va_wsS RX0 57 yJ6_bitCount_0f7a4 wsJ6_bitCount_0f7a4) := goodIn_app (goodIn_of _ (by decide +kernel)) ggX0_takenInRow_J6_bitCount_0f7a4
theorem dX0_takenInRow_0 : decode cX0_takenInRow 0 = .ok (.aload_n 0, 1) := by decide +kernel
theorem dX0_takenInRow_1 : decode cX0_takenInRow 1 = .ok (.getfield 21, 3) := by decide +kernel
theorem dX0_takenInRow_4 : decode cX0_takenInRow 4 = .ok (.iload_n 1, 1) := by decide +kernel
theorem dX0_takenInRow_5 : decode cX0_takenInRow 5 = .ok (.iaload, 1) := by decide +kernel
theorem dX0_takenInRow_6 : decode cX0_takenInRow 6 = .ok (.invokestatic 57, 3) := by decide +kernel
theorem dX0_takenInRow_9 : decode cX0_takenInRow 9 = .ok (.ireturn, 1) := by decide +kernel
set_option maxRecDepth 20000 in
theorem ggX0_takenInAll_X0_takenInRow : GoodIn wsX0_takenInAll wsX0_takenInRow := goodIn_r _ [6, 7, 8, 9, 10, 11, 12, 13, 14, 15, 16, 17, 18, 19, 20, 21, 22, 23, 24] (by decide +kernel) (by decide +kernel)
set_option maxRecDepth 20000 in
theorem gX0_takenInAll_X0_takenInRow : GoodIn wsX0_takenInAll (wsV RX0 63 RX0 yX0_takenInRow wsX0_takenInRow) := goodIn_app (goodIn_of _ (by decide +kernel)) ggX0_takenInAll_X0_takenInRow
theorem dX0_takenInAll_0 : decode cX0_takenInAll 0 = .ok (.iconst 0, 1) := by decide +kernel
theorem dX0_takenInAll_1 : decode cX0_takenInAll 1 = .ok (.istore_n 1, 1) := by decide +kernel
theorem dX0_takenInAll_2 : decode cX0_takenInAll 2 = .ok (.iconst 0, 1) := by decide +kernel
theorem dX0_takenInAll_3 : decode cX0_takenInAll 3 = .ok (.istore_n 2, 1) := by decide +kernel
theorem dX0_takenInAll_4 : decode cX0_takenInAll 4 = .ok (.iload_n 2, 1) := by decide +kernel
theorem dX0_takenInAll_5 : decode cX0_takenInAll 5 = .ok (.aload_n 0, 1) := by decide +kernel
theorem dX0_takenInAll_6 : decode cX0_takenInAll 6 = .ok (.getfield 36, 3) := by decide +kernel
theorem dX0_takenInAll_9 : decode cX0_takenInAll 9 = .ok (.if_icmp .ge 17, 3) := by decide +kernel
theorem dX0_takenInAll_12 : decode cX0_takenInAll 12 = .ok (.iload_n 1, 1) := by decide +kernel
theorem dX0_takenInAll_13 : decode cX0_takenInAll 13 = .ok (.aload_n 0, 1) := by decide +kernel
theorem dX0_takenInAll_14 : decode cX0_takenInAll 14 = .ok (.iload_n 2, 1) := by decide +kernel
theorem dX0_takenInAll_15 : decode cX0_takenInAll 15 = .ok (.invokevirtual 63, 3) := by decide +kernel
theorem dX0_takenInAll_18 : decode cX0_takenInAll 18 = .ok (.iadd, 1) := by decide +kernel
theorem dX0_takenInAll_19 : decode cX0_takenInAll 19 = .ok (.istore_n 1, 1) := by decide +kernel
theorem dX0_takenInAll_20 : decode cX0_takenInAll 20 = .ok (.iinc 2 1, 3) := by decide +kernel
theorem dX0_takenInAll_23 : decode cX0_takenInAll 23 = .ok (.goto (-19), 3) := by decide +kernel
theorem dX0_takenInAll_26 : decode cX0_takenInAll 26 = .ok (.iload_n 1, 1) := by decide +kernel
theorem dX0_takenInAll_27 : decode cX0_takenInAll 27 = .ok (.ireturn, 1) := by decide +kernel
theorem dX0_seatsInAll_0 : decode cX0_seatsInAll 0 = .ok (.iconst 0, 1) := by decide +kernel
theorem dX0_seatsInAll_1 : decode cX0_seatsInAll 1 = .ok (.istore_n 1, 1) := by decide +kernel
theorem dX0_seatsInAll_2 : decode cX0_seatsInAll 2 = .ok (.iconst 0, 1) := by decide +kernel
theorem dX0_seatsInAll_3 : decode cX0_seatsInAll 3 = .ok (.istore_n 2, 1) := by decide +kernel
theorem dX0_seatsInAll_4 : decode cX0_seatsInAll 4 = .ok (.iload_n 2, 1) := by decide +kernel
theorem dX0_seatsInAll_5 : decode cX0_seatsInAll 5 = .ok (.aload_n 0, 1) := by decide +kernel
theorem dX0_seatsInAll_6 : decode cX0_seatsInAll 6 = .ok (.getfield 36, 3) := by decide +kernel
theorem dX0_seatsInAll_9 : decode cX0_seatsInAll 9 = .ok (.if_icmp .ge 18, 3) := by decide +kernel
theorem dX0_seatsInAll_12 : decode cX0_seatsInAll 12 = .ok (.iload_n 1, 1) := by decide +kernel
theorem dX0_seatsInAll_13 : decode cX0_seatsInAll 13 = .ok (.aload_n 0, 1) := by decide +kernel
theorem dX0_seatsInAll_14 : decode cX0_seatsInAll 14 = .ok (.getfield 18, 3) := by decide +kernel
theorem dX0_seatsInAll_17 : decode cX0_seatsInAll 17 = .ok (.iload_n 2, 1) := by decide +kernel
theorem dX0_seatsInAll_18 : decode cX0_seatsInAll 18 = .ok (.iaload, 1) := by decide +kernel
theorem dX0_seatsInAll_19 : decode cX0_seatsInAll 19 = .ok (.iadd, 1) := by decide +kernel
theorem dX0_seatsInAll_20 : decode cX0_seatsInAll 20 = .ok (.istore_n 1, 1) := by decide +kernel
theorem dX0_seatsInAll_21 : decode cX0_seatsInAll 21 = .ok (.iinc 2 1, 3) := by decide +kernel
theorem dX0_seatsInAll_24 : decode cX0_seatsInAll 24 = .ok (.goto (-20), 3) := by decide +kernel
theorem dX0_seatsInAll_27 : decode cX0_seatsInAll 27 = .ok (.iload_n 1, 1) := by decide +kernel
theorem dX0_seatsInAll_28 : decode cX0_seatsInAll 28 = .ok (.ireturn, 1) := by decide +kernel
set_option maxRecDepth 20000 in
theorem ggX0_longestFree_X0_isTaken : GoodIn wsX0_longestFree wsX0_isTaken := goodIn_r _ [11, 12, 13, 14, 15, 16, 17, 18, 19, 20, 21, 22] (by decide +kernel) (by decide +kernel)
set_option maxRecDepth 20000 in
theorem gX0_longestFree_X0_isTaken : GoodIn wsX0_longestFree (wsV RX0 66 RX0 yX0_isTaken wsX0_isTaken) := goodIn_app (goodIn_of _ (by decide +kernel)) ggX0_longestFree_X0_isTaken
theorem dX0_longestFree_0 : decode cX0_longestFree 0 = .ok (.iconst 0, 1) := by decide +kernel
theorem dX0_longestFree_1 : decode cX0_longestFree 1 = .ok (.istore_n 1, 1) := by decide +kernel
theorem dX0_longestFree_2 : decode cX0_longestFree 2 = .ok (.iconst 0, 1) := by decide +kernel
theorem dX0_longestFree_3 : decode cX0_longestFree 3 = .ok (.istore_n 2, 1) := by decide +kernel
theorem dX0_longestFree_4 : decode cX0_longestFree 4 = .ok (.iload_n 2, 1) := by decide +kernel
theorem dX0_longestFree_5 : decode cX0_longestFree 5 = .ok (.aload_n 0, 1) := by decide +kernel
theorem dX0_longestFree_6 : decode cX0_longestFree 6 = .ok (.getfield 36, 3) := by decide +kernel
theorem dX0_longestFree_9 : decode cX0_longestFree 9 = .ok (.if_icmp .ge 55, 3) := by decide +kernel
theorem dX0_longestFree_12 : decode cX0_longestFree 12 = .ok (.iconst 0, 1) := by decide +kernel
theorem dX0_longestFree_13 : decode cX0_longestFree 13 = .ok (.istore_n 3, 1) := by decide +kernel
theorem dX0_longestFree_14 : decode cX0_longestFree 14 = .ok (.iconst 0, 1) := by decide +kernel
theorem dX0_longestFree_15 : decode cX0_longestFree 15 = .ok (.istore 4, 2) := by decide +kernel
theorem dX0_longestFree_17 : decode cX0_longestFree 17 = .ok (.iload 4, 2) := by decide +kernel
theorem dX0_longestFree_19 : decode cX0_longestFree 19 = .ok (.aload_n 0, 1) := by decide +kernel
theorem dX0_longestFree_20 : decode cX0_longestFree 20 = .ok (.getfield 18, 3) := by decide +kernel
theorem dX0_longestFree_23 : decode cX0_longestFree 23 = .ok (.iload_n 2, 1) := by decide +kernel
theorem dX0_longestFree_24 : decode cX0_longestFree 24 = .ok (.iaload, 1) := by decide +kernel
theorem dX0_longestFree_25 : decode cX0_longestFree 25 = .ok (.if_icmp .ge 33, 3) := by decide +kernel
theorem dX0_longestFree_28 : decode cX0_longestFree 28 = .ok (.aload_n 0, 1) := by decide +kernel
theorem dX0_longestFree_29 : decode cX0_longestFree 29 = .ok (.iload_n 2, 1) := by decide +kernel
theorem dX0_longestFree_30 : decode cX0_longestFree 30 = .ok (.iload 4, 2) := by decide +kernel
theorem dX0_longestFree_32 : decode cX0_longestFree 32 = .ok (.invokevirtual 66, 3) := by decide +kernel
theorem dX0_longestFree_35 : decode cX0_longestFree 35 = .ok (.ifCond .eq 7, 3) := by decide +kernel
theorem dX0_longestFree_38 : decode cX0_longestFree 38 = .ok (.iconst 0, 1) := by decide +kernel
theorem dX0_longestFree_39 : decode cX0_longestFree 39 = .ok (.goto 6, 3) := by decide +kernel
theorem dX0_longestFree_42 : decode cX0_longestFree 42 = .ok (.iload_n 3, 1) := by decide +kernel
theorem dX0_longestFree_43 : decode cX0_longestFree 43 = .ok (.iconst 1, 1) := by decide +kernel
theorem dX0_longestFree_44 : decode cX0_longestFree 44 = .ok (.iadd, 1) := by decide +kernel
theorem dX0_longestFree_45 : decode cX0_longestFree 45 = .ok (.istore_n 3, 1) := by decide +kernel
theorem dX0_longestFree_46 : decode cX0_longestFree 46 = .ok (.iload_n 1, 1) := by decide +kernel
theorem dX0_longestFree_47 : decode cX0_longestFree 47 = .ok (.iload_n 3, 1) := by decide +kernel
theorem dX0_longestFree_48 : decode cX0_longestFree 48 = .ok (.invokestatic 70, 3) := by decide +kernel
theorem dX0_longestFree_51 : decode cX0_longestFree 51 = .ok (.istore_n 1, 1) := by decide +kernel
theorem dX0_longestFree_52 : decode cX0_longestFree 52 = .ok (.iinc 4 1, 3) := by decide +kernel
theorem dX0_longestFree_55 : decode cX0_longestFree 55 = .ok (.goto (-38), 3) := by decide +kernel
theorem dX0_longestFree_58 : decode cX0_longestFree 58 = .ok (.iinc 2 1, 3) := by decide +kernel
theorem dX0_longestFree_61 : decode cX0_longestFree 61 = .ok (.goto (-57), 3) := by decide +kernel
theorem dX0_longestFree_64 : decode cX0_longestFree 64 = .ok (.iload_n 1, 1) := by decide +kernel
theorem dX0_longestFree_65 : decode cX0_longestFree 65 = .ok (.ireturn, 1) := by decide +kernel
theorem dX0_sideOf_0 : decode cX0_sideOf 0 = .ok (.iconst 2, 1) := by decide +kernel
theorem dX0_sideOf_1 : decode cX0_sideOf 1 = .ok (.iload_n 2, 1) := by decide +kernel
theorem dX0_sideOf_2 : decode cX0_sideOf 2 = .ok (.imul, 1) := by decide +kernel
theorem dX0_sideOf_3 : decode cX0_sideOf 3 = .ok (.aload_n 0, 1) := by decide +kernel
theorem dX0_sideOf_4 : decode cX0_sideOf 4 = .ok (.getfield 18, 3) := by decide +kernel
theorem dX0_sideOf_7 : decode cX0_sideOf 7 = .ok (.iload_n 1, 1) := by decide +kernel
theorem dX0_sideOf_8 : decode cX0_sideOf 8 = .ok (.iaload, 1) := by decide +kernel
theorem dX0_sideOf_9 : decode cX0_sideOf 9 = .ok (.iconst 1, 1) := by decide +kernel
theorem dX0_sideOf_10 : decode cX0_sideOf 10 = .ok (.isub, 1) := by decide +kernel
theorem dX0_sideOf_11 : decode cX0_sideOf 11 = .ok (.isub, 1) := by decide +kernel
theorem dX0_sideOf_12 : decode cX0_sideOf 12 = .ok (.ireturn, 1) := by decide +kernel
set_option maxRecDepth 20000 in
theorem ggX0_isHeadInWay_X0_sideOf : GoodIn wsX0_isHeadInWay wsX0_sideOf := goodIn_r _ [10, 11, 22, 23, 24, 25, 26, 27, 28, 29, 30, 31] (by decide +kernel) (by decide +kernel)
set_option maxRecDepth 20000 in
theorem gX0_isHeadInWay_X0_sideOf : GoodIn wsX0_isHeadInWay (wsV RX0 75 RX0 yX0_sideOf wsX0_sideOf) := goodIn_app (goodIn_of _ (by decide +kernel)) ggX0_isHeadInWay_X0_sideOf
set_option maxRecDepth 20000 in
theorem ggX0_isHeadInWay_X0_headOverPoint : GoodIn wsX0_isHeadInWay wsX0_headOverPoint := goodIn_r _ [15, 16, 17, 22, 23, 24, 25, 26, 27, 28, 29, 30, 31] (by decide +kernel) (by decide +kernel)
set_option maxRecDepth 20000 in
theorem gX0_isHeadInWay_X0_headOverPoint : GoodIn wsX0_isHeadInWay (wsV RX0 81 RX0 yX0_headOverPoint wsX0_headOverPoint) := goodIn_app (goodIn_of _ (by decide +kernel)) ggX0_isHeadInWay_X0_headOverPoint
set_option maxRecDepth 20000 in
theorem ggX0_isHeadInWay_X0_eyeOverPoint : GoodIn wsX0_isHeadInWay wsX0_eyeOverPoint := goodIn_r _ [21, 16, 17, 22, 23, 24, 25, 26, 27, 28, 29, 30, 31] (by decide +kernel) (by decide +kernel)
set_option maxRecDepth 20000 in
theorem gX0_isHeadInWay_X0_eyeOverPoint : GoodIn wsX0_isHeadInWay (wsV RX0 84 RX0 yX0_eyeOverPoint wsX0_eyeOverPoint) := goodIn_app (goodIn_of _ (by decide +kernel)) ggX0_isHeadInWay_X0_eyeOverPoint
theorem dX0_isHeadInWay_0 : decode cX0_isHeadInWay 0 = .ok (.aload_n 0, 1) := by decide +kernel
theorem dX0_isHeadInWay_1 : decode cX0_isHeadInWay 1 = .ok (.getfield 9, 3) := by decide +kernel
theorem dX0_isHeadInWay_4 : decode cX0_isHeadInWay 4 = .ok (.iload_n 1, 1) := by decide +kernel
theorem dX0_isHeadInWay_5 : decode cX0_isHeadInWay 5 = .ok (.iaload, 1) := by decide +kernel
theorem dX0_isHeadInWay_6 : decode cX0_isHeadInWay 6 = .ok (.istore 5, 2) := by decide +kernel
theorem dX0_isHeadInWay_8 : decode cX0_isHeadInWay 8 = .ok (.aload_n 0, 1) := by decide +kernel
theorem dX0_isHeadInWay_9 : decode cX0_isHeadInWay 9 = .ok (.getfield 9, 3) := by decide +kernel
theorem dX0_isHeadInWay_12 : decode cX0_isHeadInWay 12 = .ok (.iload_n 3, 1) := by decide +kernel
theorem dX0_isHeadInWay_13 : decode cX0_isHeadInWay 13 = .ok (.iaload, 1) := by decide +kernel
theorem dX0_isHeadInWay_14 : decode cX0_isHeadInWay 14 = .ok (.istore 6, 2) := by decide +kernel
theorem dX0_isHeadInWay_16 : decode cX0_isHeadInWay 16 = .ok (.aload_n 0, 1) := by decide +kernel
theorem dX0_isHeadInWay_17 : decode cX0_isHeadInWay 17 = .ok (.iload_n 3, 1) := by decide +kernel
theorem dX0_isHeadInWay_18 : decode cX0_isHeadInWay 18 = .ok (.iload 4, 2) := by decide +kernel
theorem dX0_isHeadInWay_20 : decode cX0_isHeadInWay 20 = .ok (.invokevirtual 75, 3) := by decide +kernel
theorem dX0_isHeadInWay_23 : decode cX0_isHeadInWay 23 = .ok (.iload 5, 2) := by decide +kernel
theorem dX0_isHeadInWay_25 : decode cX0_isHeadInWay 25 = .ok (.imul, 1) := by decide +kernel
theorem dX0_isHeadInWay_26 : decode cX0_isHeadInWay 26 = .ok (.aload_n 0, 1) := by decide +kernel
theorem dX0_isHeadInWay_27 : decode cX0_isHeadInWay 27 = .ok (.iload_n 1, 1) := by decide +kernel
theorem dX0_isHeadInWay_28 : decode cX0_isHeadInWay 28 = .ok (.iload_n 2, 1) := by decide +kernel
theorem dX0_isHeadInWay_29 : decode cX0_isHeadInWay 29 = .ok (.invokevirtual 75, 3) := by decide +kernel
theorem dX0_isHeadInWay_32 : decode cX0_isHeadInWay 32 = .ok (.iload 6, 2) := by decide +kernel
theorem dX0_isHeadInWay_34 : decode cX0_isHeadInWay 34 = .ok (.imul, 1) := by decide +kernel
theorem dX0_isHeadInWay_35 : decode cX0_isHeadInWay 35 = .ok (.isub, 1) := by decide +kernel
theorem dX0_isHeadInWay_36 : decode cX0_isHeadInWay 36 = .ok (.istore 7, 2) := by decide +kernel
theorem dX0_isHeadInWay_38 : decode cX0_isHeadInWay 38 = .ok (.iload 6, 2) := by decide +kernel
theorem dX0_isHeadInWay_40 : decode cX0_isHeadInWay 40 = .ok (.iload 5, 2) := by decide +kernel
theorem dX0_isHeadInWay_42 : decode cX0_isHeadInWay 42 = .ok (.if_icmp .ge 13, 3) := by decide +kernel
theorem dX0_isHeadInWay_45 : decode cX0_isHeadInWay 45 = .ok (.iload 7, 2) := by decide +kernel
theorem dX0_isHeadInWay_47 : decode cX0_isHeadInWay 47 = .ok (.invokestatic 78, 3) := by decide +kernel
theorem dX0_isHeadInWay_50 : decode cX0_isHeadInWay 50 = .ok (.iload 5, 2) := by decide +kernel
theorem dX0_isHeadInWay_52 : decode cX0_isHeadInWay 52 = .ok (.if_icmp .lt 5, 3) := by decide +kernel
theorem dX0_isHeadInWay_55 : decode cX0_isHeadInWay 55 = .ok (.iconst 0, 1) := by decide +kernel
theorem dX0_isHeadInWay_56 : decode cX0_isHeadInWay 56 = .ok (.ireturn, 1) := by decide +kernel
theorem dX0_isHeadInWay_57 : decode cX0_isHeadInWay 57 = .ok (.aload_n 0, 1) := by decide +kernel
theorem dX0_isHeadInWay_58 : decode cX0_isHeadInWay 58 = .ok (.iload_n 3, 1) := by decide +kernel
theorem dX0_isHeadInWay_59 : decode cX0_isHeadInWay 59 = .ok (.invokevirtual 81, 3) := by decide +kernel
theorem dX0_isHeadInWay_62 : decode cX0_isHeadInWay 62 = .ok (.iload 5, 2) := by decide +kernel
theorem dX0_isHeadInWay_64 : decode cX0_isHeadInWay 64 = .ok (.imul, 1) := by decide +kernel
theorem dX0_isHeadInWay_65 : decode cX0_isHeadInWay 65 = .ok (.aload_n 0, 1) := by decide +kernel
theorem dX0_isHeadInWay_66 : decode cX0_isHeadInWay 66 = .ok (.iload_n 1, 1) := by decide +kernel
theorem dX0_isHeadInWay_67 : decode cX0_isHeadInWay 67 = .ok (.invokevirtual 84, 3) := by decide +kernel
theorem dX0_isHeadInWay_70 : decode cX0_isHeadInWay 70 = .ok (.iload 6, 2) := by decide +kernel
theorem dX0_isHeadInWay_72 : decode cX0_isHeadInWay 72 = .ok (.imul, 1) := by decide +kernel
theorem dX0_isHeadInWay_73 : decode cX0_isHeadInWay 73 = .ok (.if_icmp .le 7, 3) := by decide +kernel
theorem dX0_isHeadInWay_76 : decode cX0_isHeadInWay 76 = .ok (.iconst 1, 1) := by decide +kernel
theorem dX0_isHeadInWay_77 : decode cX0_isHeadInWay 77 = .ok (.goto 4, 3) := by decide +kernel
theorem dX0_isHeadInWay_80 : decode cX0_isHeadInWay 80 = .ok (.iconst 0, 1) := by decide +kernel
theorem dX0_isHeadInWay_81 : decode cX0_isHeadInWay 81 = .ok (.ireturn, 1) := by decide +kernel
theorem dX0_eyeOverPoint_0 : decode cX0_eyeOverPoint 0 = .ok (.aload_n 0, 1) := by decide +kernel
theorem dX0_eyeOverPoint_1 : decode cX0_eyeOverPoint 1 = .ok (.getfield 15, 3) := by decide +kernel
theorem dX0_eyeOverPoint_4 : decode cX0_eyeOverPoint 4 = .ok (.iload_n 1, 1) := by decide +kernel
theorem dX0_eyeOverPoint_5 : decode cX0_eyeOverPoint 5 = .ok (.iaload, 1) := by decide +kernel
theorem dX0_eyeOverPoint_6 : decode cX0_eyeOverPoint 6 = .ok (.aload_n 0, 1) := by decide +kernel
theorem dX0_eyeOverPoint_7 : decode cX0_eyeOverPoint 7 = .ok (.getfield 33, 3) := by decide +kernel
theorem dX0_eyeOverPoint_10 : decode cX0_eyeOverPoint 10 = .ok (.iconst 1, 1) := by decide +kernel
theorem dX0_eyeOverPoint_11 : decode cX0_eyeOverPoint 11 = .ok (.iaload, 1) := by decide +kernel
theorem dX0_eyeOverPoint_12 : decode cX0_eyeOverPoint 12 = .ok (.iadd, 1) := by decide +kernel
theorem dX0_eyeOverPoint_13 : decode cX0_eyeOverPoint 13 = .ok (.aload_n 0, 1) := by decide +kernel
theorem dX0_eyeOverPoint_14 : decode cX0_eyeOverPoint 14 = .ok (.getfield 33, 3) := by decide +kernel
theorem dX0_eyeOverPoint_17 : decode cX0_eyeOverPoint 17 = .ok (.iconst 0, 1) := by decide +kernel
theorem dX0_eyeOverPoint_18 : decode cX0_eyeOverPoint 18 = .ok (.iaload, 1) := by decide +kernel
theorem dX0_eyeOverPoint_19 : decode cX0_eyeOverPoint 19 = .ok (.isub, 1) := by decide +kernel
theorem dX0_eyeOverPoint_20 : decode cX0_eyeOverPoint 20 = .ok (.ireturn, 1) := by decide +kernel
theorem dX0_headOverPoint_0 : decode cX0_headOverPoint 0 = .ok (.aload_n 0, 1) := by decide +kernel
theorem dX0_headOverPoint_1 : decode cX0_headOverPoint 1 = .ok (.getfield 15, 3) := by decide +kernel
theorem dX0_headOverPoint_4 : decode cX0_headOverPoint 4 = .ok (.iload_n 1, 1) := by decide +kernel
theorem dX0_headOverPoint_5 : decode cX0_headOverPoint 5 = .ok (.iaload, 1) := by decide +kernel
theorem dX0_headOverPoint_6 : decode cX0_headOverPoint 6 = .ok (.aload_n 0, 1) := by decide +kernel
theorem dX0_headOverPoint_7 : decode cX0_headOverPoint 7 = .ok (.getfield 33, 3) := by decide +kernel
theorem dX0_headOverPoint_10 : decode cX0_headOverPoint 10 = .ok (.iconst 1, 1) := by decide +kernel
theorem dX0_headOverPoint_11 : decode cX0_headOverPoint 11 = .ok (.iaload, 1) := by decide +kernel
theorem dX0_headOverPoint_12 : decode cX0_headOverPoint 12 = .ok (.iadd, 1) := by decide +kernel
theorem dX0_headOverPoint_13 : decode cX0_headOverPoint 13 = .ok (.aload_n 0, 1) := by decide +kernel
theorem dX0_headOverPoint_14 : decode cX0_headOverPoint 14 = .ok (.getfield 33, 3) := by decide +kernel
theorem dX0_headOverPoint_17 : decode cX0_headOverPoint 17 = .ok (.iconst 2, 1) := by decide +kernel
theorem dX0_headOverPoint_18 : decode cX0_headOverPoint 18 = .ok (.iaload, 1) := by decide +kernel
theorem dX0_headOverPoint_19 : decode cX0_headOverPoint 19 = .ok (.iadd, 1) := by decide +kernel
theorem dX0_headOverPoint_20 : decode cX0_headOverPoint 20 = .ok (.aload_n 0, 1) := by decide +kernel
theorem dX0_headOverPoint_21 : decode cX0_headOverPoint 21 = .ok (.getfield 33, 3) := by decide +kernel
theorem dX0_headOverPoint_24 : decode cX0_headOverPoint 24 = .ok (.iconst 0, 1) := by decide +kernel
theorem dX0_headOverPoint_25 : decode cX0_headOverPoint 25 = .ok (.iaload, 1) := by decide +kernel
theorem dX0_headOverPoint_26 : decode cX0_headOverPoint 26 = .ok (.isub, 1) := by decide +kernel
theorem dX0_headOverPoint_27 : decode cX0_headOverPoint 27 = .ok (.ireturn, 1) := by decide +kernel
set_option maxRecDepth 20000 in
theorem ggX0_isColumnInWay_X0_sideOf : GoodIn wsX0_isColumnInWay wsX0_sideOf := goodIn_r _ [13, 14, 15, 16, 17, 18, 19, 20, 21, 22, 23, 24] (by decide +kernel) (by decide +kernel)
set_option maxRecDepth 20000 in
theorem gX0_isColumnInWay_X0_sideOf : GoodIn wsX0_isColumnInWay (wsV RX0 75 RX0 yX0_sideOf wsX0_sideOf) := goodIn_app (goodIn_of _ (by decide +kernel)) ggX0_isColumnInWay_X0_sideOf
theorem dX0_isColumnInWay_0 : decode cX0_isColumnInWay 0 = .ok (.aload_n 0, 1) := by decide +kernel
theorem dX0_isColumnInWay_1 : decode cX0_isColumnInWay 1 = .ok (.getfield 9, 3) := by decide +kernel
theorem dX0_isColumnInWay_4 : decode cX0_isColumnInWay 4 = .ok (.iload_n 1, 1) := by decide +kernel
theorem dX0_isColumnInWay_5 : decode cX0_isColumnInWay 5 = .ok (.iaload, 1) := by decide +kernel
theorem dX0_isColumnInWay_6 : decode cX0_isColumnInWay 6 = .ok (.istore 4, 2) := by decide +kernel
theorem dX0_isColumnInWay_8 : decode cX0_isColumnInWay 8 = .ok (.aload_n 0, 1) := by decide +kernel
theorem dX0_isColumnInWay_9 : decode cX0_isColumnInWay 9 = .ok (.getfield 24, 3) := by decide +kernel
theorem dX0_isColumnInWay_12 : decode cX0_isColumnInWay 12 = .ok (.iload_n 3, 1) := by decide +kernel
theorem dX0_isColumnInWay_13 : decode cX0_isColumnInWay 13 = .ok (.iaload, 1) := by decide +kernel
theorem dX0_isColumnInWay_14 : decode cX0_isColumnInWay 14 = .ok (.istore 5, 2) := by decide +kernel
theorem dX0_isColumnInWay_16 : decode cX0_isColumnInWay 16 = .ok (.aload_n 0, 1) := by decide +kernel
theorem dX0_isColumnInWay_17 : decode cX0_isColumnInWay 17 = .ok (.getfield 27, 3) := by decide +kernel
theorem dX0_isColumnInWay_20 : decode cX0_isColumnInWay 20 = .ok (.iload_n 3, 1) := by decide +kernel
theorem dX0_isColumnInWay_21 : decode cX0_isColumnInWay 21 = .ok (.iaload, 1) := by decide +kernel
theorem dX0_isColumnInWay_22 : decode cX0_isColumnInWay 22 = .ok (.iload 4, 2) := by decide +kernel
theorem dX0_isColumnInWay_24 : decode cX0_isColumnInWay 24 = .ok (.imul, 1) := by decide +kernel
theorem dX0_isColumnInWay_25 : decode cX0_isColumnInWay 25 = .ok (.aload_n 0, 1) := by decide +kernel
theorem dX0_isColumnInWay_26 : decode cX0_isColumnInWay 26 = .ok (.iload_n 1, 1) := by decide +kernel
theorem dX0_isColumnInWay_27 : decode cX0_isColumnInWay 27 = .ok (.iload_n 2, 1) := by decide +kernel
theorem dX0_isColumnInWay_28 : decode cX0_isColumnInWay 28 = .ok (.invokevirtual 75, 3) := by decide +kernel
theorem dX0_isColumnInWay_31 : decode cX0_isColumnInWay 31 = .ok (.iload 5, 2) := by decide +kernel
theorem dX0_isColumnInWay_33 : decode cX0_isColumnInWay 33 = .ok (.imul, 1) := by decide +kernel
theorem dX0_isColumnInWay_34 : decode cX0_isColumnInWay 34 = .ok (.isub, 1) := by decide +kernel
theorem dX0_isColumnInWay_35 : decode cX0_isColumnInWay 35 = .ok (.istore 6, 2) := by decide +kernel
theorem dX0_isColumnInWay_37 : decode cX0_isColumnInWay 37 = .ok (.iload 5, 2) := by decide +kernel
theorem dX0_isColumnInWay_39 : decode cX0_isColumnInWay 39 = .ok (.iload 4, 2) := by decide +kernel
theorem dX0_isColumnInWay_41 : decode cX0_isColumnInWay 41 = .ok (.if_icmp .ge 24, 3) := by decide +kernel
theorem dX0_isColumnInWay_44 : decode cX0_isColumnInWay 44 = .ok (.iload 6, 2) := by decide +kernel
theorem dX0_isColumnInWay_46 : decode cX0_isColumnInWay 46 = .ok (.invokestatic 78, 3) := by decide +kernel
theorem dX0_isColumnInWay_49 : decode cX0_isColumnInWay 49 = .ok (.aload_n 0, 1) := by decide +kernel
theorem dX0_isColumnInWay_50 : decode cX0_isColumnInWay 50 = .ok (.getfield 30, 3) := by decide +kernel
theorem dX0_isColumnInWay_53 : decode cX0_isColumnInWay 53 = .ok (.iload_n 3, 1) := by decide +kernel
theorem dX0_isColumnInWay_54 : decode cX0_isColumnInWay 54 = .ok (.iaload, 1) := by decide +kernel
theorem dX0_isColumnInWay_55 : decode cX0_isColumnInWay 55 = .ok (.iload 4, 2) := by decide +kernel
theorem dX0_isColumnInWay_57 : decode cX0_isColumnInWay 57 = .ok (.imul, 1) := by decide +kernel
theorem dX0_isColumnInWay_58 : decode cX0_isColumnInWay 58 = .ok (.if_icmp .gt 7, 3) := by decide +kernel
theorem dX0_isColumnInWay_61 : decode cX0_isColumnInWay 61 = .ok (.iconst 1, 1) := by decide +kernel
theorem dX0_isColumnInWay_62 : decode cX0_isColumnInWay 62 = .ok (.goto 4, 3) := by decide +kernel
theorem dX0_isColumnInWay_65 : decode cX0_isColumnInWay 65 = .ok (.iconst 0, 1) := by decide +kernel
theorem dX0_isColumnInWay_66 : decode cX0_isColumnInWay 66 = .ok (.ireturn, 1) := by decide +kernel
set_option maxRecDepth 20000 in
theorem ggX0_peopleInWay_X0_isTaken : GoodIn wsX0_peopleInWay wsX0_isTaken := goodIn_r _ [6, 7, 31, 32, 33, 34, 35, 36, 37, 38, 39, 40] (by decide +kernel) (by decide +kernel)
set_option maxRecDepth 20000 in
theorem gX0_peopleInWay_X0_isTaken : GoodIn wsX0_peopleInWay (wsV RX0 66 RX0 yX0_isTaken wsX0_isTaken) := goodIn_app (goodIn_of _ (by decide +kernel)) ggX0_peopleInWay_X0_isTaken
set_option maxRecDepth 20000 in
theorem ggX0_peopleInWay_X0_isHeadInWay : GoodIn wsX0_peopleInWay wsX0_isHeadInWay := goodIn_r _ [11, 12, 13, 14, 15, 16, 17, 18, 19, 5, 20, 1, 21, 22, 23, 24, 25, 26, 27, 28, 29, 30, 31, 32, 33, 34, 35, 36, 37, 38, 39, 40] (by decide +kernel) (by decide +kernel)
set_option maxRecDepth 20000 in
theorem gX0_peopleInWay_X0_isHeadInWay : GoodIn wsX0_peopleInWay (wsV RX0 87 RX0 yX0_isHeadInWay wsX0_isHeadInWay) := goodIn_app (goodIn_of _ (by decide +kernel)) ggX0_peopleInWay_X0_isHeadInWay
theorem dX0_peopleInWay_0 : decode cX0_peopleInWay 0 = .ok (.iconst 0, 1) := by decide +kernel
theorem dX0_peopleInWay_1 : decode cX0_peopleInWay 1 = .ok (.istore_n 3, 1) := by decide +kernel
theorem dX0_peopleInWay_2 : decode cX0_peopleInWay 2 = .ok (.iconst 0, 1) := by decide +kernel
theorem dX0_peopleInWay_3 : decode cX0_peopleInWay 3 = .ok (.istore 4, 2) := by decide +kernel
theorem dX0_peopleInWay_5 : decode cX0_peopleInWay 5 = .ok (.iload 4, 2) := by decide +kernel
theorem dX0_peopleInWay_7 : decode cX0_peopleInWay 7 = .ok (.iload_n 1, 1) := by decide +kernel
theorem dX0_peopleInWay_8 : decode cX0_peopleInWay 8 = .ok (.if_icmp .ge 57, 3) := by decide +kernel
theorem dX0_peopleInWay_11 : decode cX0_peopleInWay 11 = .ok (.iconst 0, 1) := by decide +kernel
theorem dX0_peopleInWay_12 : decode cX0_peopleInWay 12 = .ok (.istore 5, 2) := by decide +kernel
theorem dX0_peopleInWay_14 : decode cX0_peopleInWay 14 = .ok (.iload 5, 2) := by decide +kernel
theorem dX0_peopleInWay_16 : decode cX0_peopleInWay 16 = .ok (.aload_n 0, 1) := by decide +kernel
theorem dX0_peopleInWay_17 : decode cX0_peopleInWay 17 = .ok (.getfield 18, 3) := by decide +kernel
theorem dX0_peopleInWay_20 : decode cX0_peopleInWay 20 = .ok (.iload 4, 2) := by decide +kernel
theorem dX0_peopleInWay_22 : decode cX0_peopleInWay 22 = .ok (.iaload, 1) := by decide +kernel
theorem dX0_peopleInWay_23 : decode cX0_peopleInWay 23 = .ok (.if_icmp .ge 36, 3) := by decide +kernel
theorem dX0_peopleInWay_26 : decode cX0_peopleInWay 26 = .ok (.aload_n 0, 1) := by decide +kernel
theorem dX0_peopleInWay_27 : decode cX0_peopleInWay 27 = .ok (.iload 4, 2) := by decide +kernel
theorem dX0_peopleInWay_29 : decode cX0_peopleInWay 29 = .ok (.iload 5, 2) := by decide +kernel
theorem dX0_peopleInWay_31 : decode cX0_peopleInWay 31 = .ok (.invokevirtual 66, 3) := by decide +kernel
theorem dX0_peopleInWay_34 : decode cX0_peopleInWay 34 = .ok (.ifCond .eq 19, 3) := by decide +kernel
theorem dX0_peopleInWay_37 : decode cX0_peopleInWay 37 = .ok (.aload_n 0, 1) := by decide +kernel
theorem dX0_peopleInWay_38 : decode cX0_peopleInWay 38 = .ok (.iload_n 1, 1) := by decide +kernel
theorem dX0_peopleInWay_39 : decode cX0_peopleInWay 39 = .ok (.iload_n 2, 1) := by decide +kernel
theorem dX0_peopleInWay_40 : decode cX0_peopleInWay 40 = .ok (.iload 4, 2) := by decide +kernel
theorem dX0_peopleInWay_42 : decode cX0_peopleInWay 42 = .ok (.iload 5, 2) := by decide +kernel
theorem dX0_peopleInWay_44 : decode cX0_peopleInWay 44 = .ok (.invokevirtual 87, 3) := by decide +kernel
theorem dX0_peopleInWay_47 : decode cX0_peopleInWay 47 = .ok (.ifCond .eq 6, 3) := by decide +kernel
theorem dX0_peopleInWay_50 : decode cX0_peopleInWay 50 = .ok (.iinc 3 1, 3) := by decide +kernel
theorem dX0_peopleInWay_53 : decode cX0_peopleInWay 53 = .ok (.iinc 5 1, 3) := by decide +kernel
theorem dX0_peopleInWay_56 : decode cX0_peopleInWay 56 = .ok (.goto (-42), 3) := by decide +kernel
theorem dX0_peopleInWay_59 : decode cX0_peopleInWay 59 = .ok (.iinc 4 1, 3) := by decide +kernel
theorem dX0_peopleInWay_62 : decode cX0_peopleInWay 62 = .ok (.goto (-57), 3) := by decide +kernel
theorem dX0_peopleInWay_65 : decode cX0_peopleInWay 65 = .ok (.iload_n 3, 1) := by decide +kernel
theorem dX0_peopleInWay_66 : decode cX0_peopleInWay 66 = .ok (.ireturn, 1) := by decide +kernel
set_option maxRecDepth 20000 in
theorem ggX0_columnsInWay_X0_isColumnInWay : GoodIn wsX0_columnsInWay wsX0_isColumnInWay := goodIn_r _ [6, 7, 8, 9, 10, 11, 12, 13, 14, 15, 16, 17, 5, 18, 19, 20, 21, 22, 23, 24, 25, 26, 27, 28, 29] (by decide +kernel) (by decide +kernel)
set_option maxRecDepth 20000 in
theorem gX0_columnsInWay_X0_isColumnInWay : GoodIn wsX0_columnsInWay (wsV RX0 91 RX0 yX0_isColumnInWay wsX0_isColumnInWay) := goodIn_app (goodIn_of _ (by decide +kernel)) ggX0_columnsInWay_X0_isColumnInWay
theorem dX0_columnsInWay_0 : decode cX0_columnsInWay 0 = .ok (.iconst 0, 1) := by decide +kernel
theorem dX0_columnsInWay_1 : decode cX0_columnsInWay 1 = .ok (.istore_n 3, 1) := by decide +kernel
theorem dX0_columnsInWay_2 : decode cX0_columnsInWay 2 = .ok (.iconst 0, 1) := by decide +kernel
theorem dX0_columnsInWay_3 : decode cX0_columnsInWay 3 = .ok (.istore 4, 2) := by decide +kernel
theorem dX0_columnsInWay_5 : decode cX0_columnsInWay 5 = .ok (.iload 4, 2) := by decide +kernel
theorem dX0_columnsInWay_7 : decode cX0_columnsInWay 7 = .ok (.aload_n 0, 1) := by decide +kernel
theorem dX0_columnsInWay_8 : decode cX0_columnsInWay 8 = .ok (.getfield 46, 3) := by decide +kernel
theorem dX0_columnsInWay_11 : decode cX0_columnsInWay 11 = .ok (.if_icmp .ge 23, 3) := by decide +kernel
theorem dX0_columnsInWay_14 : decode cX0_columnsInWay 14 = .ok (.aload_n 0, 1) := by decide +kernel
theorem dX0_columnsInWay_15 : decode cX0_columnsInWay 15 = .ok (.iload_n 1, 1) := by decide +kernel
theorem dX0_columnsInWay_16 : decode cX0_columnsInWay 16 = .ok (.iload_n 2, 1) := by decide +kernel
theorem dX0_columnsInWay_17 : decode cX0_columnsInWay 17 = .ok (.iload 4, 2) := by decide +kernel
theorem dX0_columnsInWay_19 : decode cX0_columnsInWay 19 = .ok (.invokevirtual 91, 3) := by decide +kernel
theorem dX0_columnsInWay_22 : decode cX0_columnsInWay 22 = .ok (.ifCond .eq 6, 3) := by decide +kernel
theorem dX0_columnsInWay_25 : decode cX0_columnsInWay 25 = .ok (.iinc 3 1, 3) := by decide +kernel
theorem dX0_columnsInWay_28 : decode cX0_columnsInWay 28 = .ok (.iinc 4 1, 3) := by decide +kernel
theorem dX0_columnsInWay_31 : decode cX0_columnsInWay 31 = .ok (.goto (-26), 3) := by decide +kernel
theorem dX0_columnsInWay_34 : decode cX0_columnsInWay 34 = .ok (.iload_n 3, 1) := by decide +kernel
theorem dX0_columnsInWay_35 : decode cX0_columnsInWay 35 = .ok (.ireturn, 1) := by decide +kernel
set_option maxRecDepth 20000 in
theorem ggX0_takenBehind_X0_isTaken : GoodIn wsX0_takenBehind wsX0_isTaken := goodIn_r _ [7, 8, 32, 33, 34, 35, 36, 37, 38, 39, 40, 41] (by decide +kernel) (by decide +kernel)
set_option maxRecDepth 20000 in
theorem gX0_takenBehind_X0_isTaken : GoodIn wsX0_takenBehind (wsV RX0 66 RX0 yX0_isTaken wsX0_isTaken) := goodIn_app (goodIn_of _ (by decide +kernel)) ggX0_takenBehind_X0_isTaken
set_option maxRecDepth 20000 in
theorem ggX0_takenBehind_X0_isHeadInWay : GoodIn wsX0_takenBehind wsX0_isHeadInWay := goodIn_r _ [12, 13, 14, 15, 16, 17, 18, 19, 20, 6, 21, 2, 22, 23, 24, 25, 26, 27, 28, 29, 30, 31, 32, 33, 34, 35, 36, 37, 38, 39, 40, 41] (by decide +kernel) (by decide +kernel)
set_option maxRecDepth 20000 in
theorem gX0_takenBehind_X0_isHeadInWay : GoodIn wsX0_takenBehind (wsV RX0 87 RX0 yX0_isHeadInWay wsX0_isHeadInWay) := goodIn_app (goodIn_of _ (by decide +kernel)) ggX0_takenBehind_X0_isHeadInWay
theorem dX0_takenBehind_0 : decode cX0_takenBehind 0 = .ok (.iconst 0, 1) := by decide +kernel
theorem dX0_takenBehind_1 : decode cX0_takenBehind 1 = .ok (.istore_n 3, 1) := by decide +kernel
theorem dX0_takenBehind_2 : decode cX0_takenBehind 2 = .ok (.iload_n 1, 1) := by decide +kernel
theorem dX0_takenBehind_3 : decode cX0_takenBehind 3 = .ok (.iconst 1, 1) := by decide +kernel
theorem dX0_takenBehind_4 : decode cX0_takenBehind 4 = .ok (.iadd, 1) := by decide +kernel
theorem dX0_takenBehind_5 : decode cX0_takenBehind 5 = .ok (.istore 4, 2) := by decide +kernel
theorem dX0_takenBehind_7 : decode cX0_takenBehind 7 = .ok (.iload 4, 2) := by decide +kernel
theorem dX0_takenBehind_9 : decode cX0_takenBehind 9 = .ok (.aload_n 0, 1) := by decide +kernel
theorem dX0_takenBehind_10 : decode cX0_takenBehind 10 = .ok (.getfield 36, 3) := by decide +kernel
theorem dX0_takenBehind_13 : decode cX0_takenBehind 13 = .ok (.if_icmp .ge 57, 3) := by decide +kernel
theorem dX0_takenBehind_16 : decode cX0_takenBehind 16 = .ok (.iconst 0, 1) := by decide +kernel
theorem dX0_takenBehind_17 : decode cX0_takenBehind 17 = .ok (.istore 5, 2) := by decide +kernel
theorem dX0_takenBehind_19 : decode cX0_takenBehind 19 = .ok (.iload 5, 2) := by decide +kernel
theorem dX0_takenBehind_21 : decode cX0_takenBehind 21 = .ok (.aload_n 0, 1) := by decide +kernel
theorem dX0_takenBehind_22 : decode cX0_takenBehind 22 = .ok (.getfield 18, 3) := by decide +kernel
theorem dX0_takenBehind_25 : decode cX0_takenBehind 25 = .ok (.iload 4, 2) := by decide +kernel
theorem dX0_takenBehind_27 : decode cX0_takenBehind 27 = .ok (.iaload, 1) := by decide +kernel
theorem dX0_takenBehind_28 : decode cX0_takenBehind 28 = .ok (.if_icmp .ge 36, 3) := by decide +kernel
theorem dX0_takenBehind_31 : decode cX0_takenBehind 31 = .ok (.aload_n 0, 1) := by decide +kernel
theorem dX0_takenBehind_32 : decode cX0_takenBehind 32 = .ok (.iload 4, 2) := by decide +kernel
theorem dX0_takenBehind_34 : decode cX0_takenBehind 34 = .ok (.iload 5, 2) := by decide +kernel
theorem dX0_takenBehind_36 : decode cX0_takenBehind 36 = .ok (.invokevirtual 66, 3) := by decide +kernel
theorem dX0_takenBehind_39 : decode cX0_takenBehind 39 = .ok (.ifCond .eq 19, 3) := by decide +kernel
theorem dX0_takenBehind_42 : decode cX0_takenBehind 42 = .ok (.aload_n 0, 1) := by decide +kernel
theorem dX0_takenBehind_43 : decode cX0_takenBehind 43 = .ok (.iload 4, 2) := by decide +kernel
theorem dX0_takenBehind_45 : decode cX0_takenBehind 45 = .ok (.iload 5, 2) := by decide +kernel
theorem dX0_takenBehind_47 : decode cX0_takenBehind 47 = .ok (.iload_n 1, 1) := by decide +kernel
theorem dX0_takenBehind_48 : decode cX0_takenBehind 48 = .ok (.iload_n 2, 1) := by decide +kernel
theorem dX0_takenBehind_49 : decode cX0_takenBehind 49 = .ok (.invokevirtual 87, 3) := by decide +kernel
theorem dX0_takenBehind_52 : decode cX0_takenBehind 52 = .ok (.ifCond .eq 6, 3) := by decide +kernel
theorem dX0_takenBehind_55 : decode cX0_takenBehind 55 = .ok (.iinc 3 1, 3) := by decide +kernel
theorem dX0_takenBehind_58 : decode cX0_takenBehind 58 = .ok (.iinc 5 1, 3) := by decide +kernel
theorem dX0_takenBehind_61 : decode cX0_takenBehind 61 = .ok (.goto (-42), 3) := by decide +kernel
theorem dX0_takenBehind_64 : decode cX0_takenBehind 64 = .ok (.iinc 4 1, 3) := by decide +kernel
theorem dX0_takenBehind_67 : decode cX0_takenBehind 67 = .ok (.goto (-60), 3) := by decide +kernel
theorem dX0_takenBehind_70 : decode cX0_takenBehind 70 = .ok (.iload_n 3, 1) := by decide +kernel
theorem dX0_takenBehind_71 : decode cX0_takenBehind 71 = .ok (.ireturn, 1) := by decide +kernel
set_option maxRecDepth 20000 in
theorem ggX0_seatsBehindColumn_X0_isColumnInWay : GoodIn wsX0_seatsBehindColumn wsX0_isColumnInWay := goodIn_r _ [7, 8, 9, 10, 11, 12, 13, 14, 15, 16, 17, 18, 6, 19, 2, 20, 21, 22, 23, 24, 25, 26, 27, 28, 29] (by decide +kernel) (by decide +kernel)
set_option maxRecDepth 20000 in
theorem gX0_seatsBehindColumn_X0_isColumnInWay : GoodIn wsX0_seatsBehindColumn (wsV RX0 91 RX0 yX0_isColumnInWay wsX0_isColumnInWay) := goodIn_app (goodIn_of _ (by decide +kernel)) ggX0_seatsBehindColumn_X0_isColumnInWay
theorem dX0_seatsBehindColumn_0 : decode cX0_seatsBehindColumn 0 = .ok (.iconst 0, 1) := by decide +kernel
theorem dX0_seatsBehindColumn_1 : decode cX0_seatsBehindColumn 1 = .ok (.istore_n 2, 1) := by decide +kernel
theorem dX0_seatsBehindColumn_2 : decode cX0_seatsBehindColumn 2 = .ok (.iconst 0, 1) := by decide +kernel
theorem dX0_seatsBehindColumn_3 : decode cX0_seatsBehindColumn 3 = .ok (.istore_n 3, 1) := by decide +kernel
theorem dX0_seatsBehindColumn_4 : decode cX0_seatsBehindColumn 4 = .ok (.iload_n 3, 1) := by decide +kernel
theorem dX0_seatsBehindColumn_5 : decode cX0_seatsBehindColumn 5 = .ok (.aload_n 0, 1) := by decide +kernel
theorem dX0_seatsBehindColumn_6 : decode cX0_seatsBehindColumn 6 = .ok (.getfield 36, 3) := by decide +kernel
theorem dX0_seatsBehindColumn_9 : decode cX0_seatsBehindColumn 9 = .ok (.if_icmp .ge 43, 3) := by decide +kernel
theorem dX0_seatsBehindColumn_12 : decode cX0_seatsBehindColumn 12 = .ok (.iconst 0, 1) := by decide +kernel
theorem dX0_seatsBehindColumn_13 : decode cX0_seatsBehindColumn 13 = .ok (.istore 4, 2) := by decide +kernel
theorem dX0_seatsBehindColumn_15 : decode cX0_seatsBehindColumn 15 = .ok (.iload 4, 2) := by decide +kernel
theorem dX0_seatsBehindColumn_17 : decode cX0_seatsBehindColumn 17 = .ok (.aload_n 0, 1) := by decide +kernel
theorem dX0_seatsBehindColumn_18 : decode cX0_seatsBehindColumn 18 = .ok (.getfield 18, 3) := by decide +kernel
theorem dX0_seatsBehindColumn_21 : decode cX0_seatsBehindColumn 21 = .ok (.iload_n 3, 1) := by decide +kernel
theorem dX0_seatsBehindColumn_22 : decode cX0_seatsBehindColumn 22 = .ok (.iaload, 1) := by decide +kernel
theorem dX0_seatsBehindColumn_23 : decode cX0_seatsBehindColumn 23 = .ok (.if_icmp .ge 23, 3) := by decide +kernel
theorem dX0_seatsBehindColumn_26 : decode cX0_seatsBehindColumn 26 = .ok (.aload_n 0, 1) := by decide +kernel
theorem dX0_seatsBehindColumn_27 : decode cX0_seatsBehindColumn 27 = .ok (.iload_n 3, 1) := by decide +kernel
theorem dX0_seatsBehindColumn_28 : decode cX0_seatsBehindColumn 28 = .ok (.iload 4, 2) := by decide +kernel
theorem dX0_seatsBehindColumn_30 : decode cX0_seatsBehindColumn 30 = .ok (.iload_n 1, 1) := by decide +kernel
theorem dX0_seatsBehindColumn_31 : decode cX0_seatsBehindColumn 31 = .ok (.invokevirtual 91, 3) := by decide +kernel
theorem dX0_seatsBehindColumn_34 : decode cX0_seatsBehindColumn 34 = .ok (.ifCond .eq 6, 3) := by decide +kernel
theorem dX0_seatsBehindColumn_37 : decode cX0_seatsBehindColumn 37 = .ok (.iinc 2 1, 3) := by decide +kernel
theorem dX0_seatsBehindColumn_40 : decode cX0_seatsBehindColumn 40 = .ok (.iinc 4 1, 3) := by decide +kernel
theorem dX0_seatsBehindColumn_43 : decode cX0_seatsBehindColumn 43 = .ok (.goto (-28), 3) := by decide +kernel
theorem dX0_seatsBehindColumn_46 : decode cX0_seatsBehindColumn 46 = .ok (.iinc 3 1, 3) := by decide +kernel
theorem dX0_seatsBehindColumn_49 : decode cX0_seatsBehindColumn 49 = .ok (.goto (-45), 3) := by decide +kernel
theorem dX0_seatsBehindColumn_52 : decode cX0_seatsBehindColumn 52 = .ok (.iload_n 2, 1) := by decide +kernel
theorem dX0_seatsBehindColumn_53 : decode cX0_seatsBehindColumn 53 = .ok (.ireturn, 1) := by decide +kernel
set_option maxRecDepth 20000 in
theorem ggX1_init_X0_init : GoodIn wsX1_init wsX0_init := goodIn_r _ [9, 10, 2, 3, 11, 12, 13, 14, 15, 16, 17, 18, 19, 22, 23, 24, 25, 26, 27, 28, 29, 30, 31] (by decide +kernel) (by decide +kernel)
set_option maxRecDepth 20000 in
theorem gX1_init_X0_init_n17 : GoodIn wsX1_init (wsX0_init) := ggX1_init_X0_init
theorem dX1_init_0 : decode cX1_init 0 = .ok (.aload_n 0, 1) := by decide +kernel
theorem dX1_init_1 : decode cX1_init 1 = .ok (.invokespecial 3, 3) := by decide +kernel
theorem dX1_init_4 : decode cX1_init 4 = .ok (.aload_n 0, 1) := by decide +kernel
theorem dX1_init_5 : decode cX1_init 5 = .ok (.bipush 6, 2) := by decide +kernel
theorem dX1_init_7 : decode cX1_init 7 = .ok (.anewarray 9, 3) := by decide +kernel
theorem dX1_init_10 : decode cX1_init 10 = .ok (.putfield 11, 3) := by decide +kernel
theorem dX1_init_13 : decode cX1_init 13 = .ok (.iconst 0, 1) := by decide +kernel
theorem dX1_init_14 : decode cX1_init 14 = .ok (.istore_n 1, 1) := by decide +kernel
theorem dX1_init_15 : decode cX1_init 15 = .ok (.iload_n 1, 1) := by decide +kernel
theorem dX1_init_16 : decode cX1_init 16 = .ok (.bipush 6, 2) := by decide +kernel
theorem dX1_init_18 : decode cX1_init 18 = .ok (.if_icmp .ge 22, 3) := by decide +kernel
theorem dX1_init_21 : decode cX1_init 21 = .ok (.aload_n 0, 1) := by decide +kernel
theorem dX1_init_22 : decode cX1_init 22 = .ok (.getfield 11, 3) := by decide +kernel
theorem dX1_init_25 : decode cX1_init 25 = .ok (.iload_n 1, 1) := by decide +kernel
theorem dX1_init_26 : decode cX1_init 26 = .ok (.new 9, 3) := by decide +kernel
theorem dX1_init_29 : decode cX1_init 29 = .ok (.dup, 1) := by decide +kernel
theorem dX1_init_30 : decode cX1_init 30 = .ok (.invokespecial 17, 3) := by decide +kernel
theorem dX1_init_33 : decode cX1_init 33 = .ok (.aastore, 1) := by decide +kernel
theorem dX1_init_34 : decode cX1_init 34 = .ok (.iinc 1 1, 3) := by decide +kernel
theorem dX1_init_37 : decode cX1_init 37 = .ok (.goto (-22), 3) := by decide +kernel
theorem dX1_init_40 : decode cX1_init 40 = .ok (.return_, 1) := by decide +kernel
set_option maxRecDepth 20000 in
theorem ggX1_keep_X1_dropOldest : GoodIn wsX1_keep wsX1_dropOldest := goodIn_r _ [7, 2, 1, 27, 28] (by decide +kernel) (by decide +kernel)
set_option maxRecDepth 20000 in
theorem gX1_keep_X1_dropOldest : GoodIn wsX1_keep (wsV RX1 22 RX1 yX1_dropOldest wsX1_dropOldest) := goodIn_app (goodIn_of _ (by decide +kernel)) ggX1_keep_X1_dropOldest
set_option maxRecDepth 20000 in
theorem ggX1_keep_X0_copyFrom : GoodIn wsX1_keep wsX0_copyFrom := goodIn_r _ [12, 13, 14, 15, 16, 17, 18, 19, 20, 21, 22, 23, 24, 25, 26, 29, 30, 31, 32, 33, 34, 35, 36, 37, 38] (by decide +kernel) (by decide +kernel)
set_option maxRecDepth 20000 in
theorem gX1_keep_X0_copyFrom : GoodIn wsX1_keep (wsV RX1 25 RX0 yX0_copyFrom wsX0_copyFrom) := goodIn_app (goodIn_of _ (by decide +kernel)) ggX1_keep_X0_copyFrom
theorem dX1_keep_0 : decode cX1_keep 0 = .ok (.aload_n 0, 1) := by decide +kernel
theorem dX1_keep_1 : decode cX1_keep 1 = .ok (.getfield 18, 3) := by decide +kernel
theorem dX1_keep_4 : decode cX1_keep 4 = .ok (.bipush 6, 2) := by decide +kernel
theorem dX1_keep_6 : decode cX1_keep 6 = .ok (.if_icmp .ne 7, 3) := by decide +kernel
theorem dX1_keep_9 : decode cX1_keep 9 = .ok (.aload_n 0, 1) := by decide +kernel
theorem dX1_keep_10 : decode cX1_keep 10 = .ok (.invokevirtual 22, 3) := by decide +kernel
theorem dX1_keep_13 : decode cX1_keep 13 = .ok (.aload_n 0, 1) := by decide +kernel
theorem dX1_keep_14 : decode cX1_keep 14 = .ok (.getfield 11, 3) := by decide +kernel
theorem dX1_keep_17 : decode cX1_keep 17 = .ok (.aload_n 0, 1) := by decide +kernel
theorem dX1_keep_18 : decode cX1_keep 18 = .ok (.getfield 18, 3) := by decide +kernel
theorem dX1_keep_21 : decode cX1_keep 21 = .ok (.aaload, 1) := by decide +kernel
theorem dX1_keep_22 : decode cX1_keep 22 = .ok (.aload_n 1, 1) := by decide +kernel
theorem dX1_keep_23 : decode cX1_keep 23 = .ok (.invokevirtual 25, 3) := by decide +kernel
theorem dX1_keep_26 : decode cX1_keep 26 = .ok (.aload_n 0, 1) := by decide +kernel
theorem dX1_keep_27 : decode cX1_keep 27 = .ok (.dup, 1) := by decide +kernel
theorem dX1_keep_28 : decode cX1_keep 28 = .ok (.getfield 18, 3) := by decide +kernel
theorem dX1_keep_31 : decode cX1_keep 31 = .ok (.iconst 1, 1) := by decide +kernel
theorem dX1_keep_32 : decode cX1_keep 32 = .ok (.iadd, 1) := by decide +kernel
theorem dX1_keep_33 : decode cX1_keep 33 = .ok (.putfield 18, 3) := by decide +kernel
theorem dX1_keep_36 : decode cX1_keep 36 = .ok (.return_, 1) := by decide +kernel
theorem dX1_dropOldest_0 : decode cX1_dropOldest 0 = .ok (.aload_n 0, 1) := by decide +kernel
theorem dX1_dropOldest_1 : decode cX1_dropOldest 1 = .ok (.getfield 11, 3) := by decide +kernel
theorem dX1_dropOldest_4 : decode cX1_dropOldest 4 = .ok (.iconst 0, 1) := by decide +kernel
theorem dX1_dropOldest_5 : decode cX1_dropOldest 5 = .ok (.aaload, 1) := by decide +kernel
theorem dX1_dropOldest_6 : decode cX1_dropOldest 6 = .ok (.astore_n 1, 1) := by decide +kernel
theorem dX1_dropOldest_7 : decode cX1_dropOldest 7 = .ok (.iconst 1, 1) := by decide +kernel
theorem dX1_dropOldest_8 : decode cX1_dropOldest 8 = .ok (.istore_n 2, 1) := by decide +kernel
theorem dX1_dropOldest_9 : decode cX1_dropOldest 9 = .ok (.iload_n 2, 1) := by decide +kernel
theorem dX1_dropOldest_10 : decode cX1_dropOldest 10 = .ok (.bipush 6, 2) := by decide +kernel
theorem dX1_dropOldest_12 : decode cX1_dropOldest 12 = .ok (.if_icmp .ge 23, 3) := by decide +kernel
theorem dX1_dropOldest_15 : decode cX1_dropOldest 15 = .ok (.aload_n 0, 1) := by decide +kernel
theorem dX1_dropOldest_16 : decode cX1_dropOldest 16 = .ok (.getfield 11, 3) := by decide +kernel
theorem dX1_dropOldest_19 : decode cX1_dropOldest 19 = .ok (.iload_n 2, 1) := by decide +kernel
theorem dX1_dropOldest_20 : decode cX1_dropOldest 20 = .ok (.iconst 1, 1) := by decide +kernel
theorem dX1_dropOldest_21 : decode cX1_dropOldest 21 = .ok (.isub, 1) := by decide +kernel
theorem dX1_dropOldest_22 : decode cX1_dropOldest 22 = .ok (.aload_n 0, 1) := by decide +kernel
theorem dX1_dropOldest_23 : decode cX1_dropOldest 23 = .ok (.getfield 11, 3) := by decide +kernel
theorem dX1_dropOldest_26 : decode cX1_dropOldest 26 = .ok (.iload_n 2, 1) := by decide +kernel
theorem dX1_dropOldest_27 : decode cX1_dropOldest 27 = .ok (.aaload, 1) := by decide +kernel
theorem dX1_dropOldest_28 : decode cX1_dropOldest 28 = .ok (.aastore, 1) := by decide +kernel
theorem dX1_dropOldest_29 : decode cX1_dropOldest 29 = .ok (.iinc 2 1, 3) := by decide +kernel
theorem dX1_dropOldest_32 : decode cX1_dropOldest 32 = .ok (.goto (-23), 3) := by decide +kernel
theorem dX1_dropOldest_35 : decode cX1_dropOldest 35 = .ok (.aload_n 0, 1) := by decide +kernel
theorem dX1_dropOldest_36 : decode cX1_dropOldest 36 = .ok (.getfield 11, 3) := by decide +kernel
theorem dX1_dropOldest_39 : decode cX1_dropOldest 39 = .ok (.iconst 5, 1) := by decide +kernel
theorem dX1_dropOldest_40 : decode cX1_dropOldest 40 = .ok (.aload_n 1, 1) := by decide +kernel
theorem dX1_dropOldest_41 : decode cX1_dropOldest 41 = .ok (.aastore, 1) := by decide +kernel
theorem dX1_dropOldest_42 : decode cX1_dropOldest 42 = .ok (.aload_n 0, 1) := by decide +kernel
theorem dX1_dropOldest_43 : decode cX1_dropOldest 43 = .ok (.dup, 1) := by decide +kernel
theorem dX1_dropOldest_44 : decode cX1_dropOldest 44 = .ok (.getfield 18, 3) := by decide +kernel
theorem dX1_dropOldest_47 : decode cX1_dropOldest 47 = .ok (.iconst 1, 1) := by decide +kernel
theorem dX1_dropOldest_48 : decode cX1_dropOldest 48 = .ok (.isub, 1) := by decide +kernel
theorem dX1_dropOldest_49 : decode cX1_dropOldest 49 = .ok (.putfield 18, 3) := by decide +kernel
theorem dX1_dropOldest_52 : decode cX1_dropOldest 52 = .ok (.return_, 1) := by decide +kernel
theorem dX2_init_0 : decode cX2_init 0 = .ok (.aload_n 0, 1) := by decide +kernel
theorem dX2_init_1 : decode cX2_init 1 = .ok (.invokespecial 3, 3) := by decide +kernel
theorem dX2_init_4 : decode cX2_init 4 = .ok (.aload_n 0, 1) := by decide +kernel
theorem dX2_init_5 : decode cX2_init 5 = .ok (.bipush 60, 2) := by decide +kernel
theorem dX2_init_7 : decode cX2_init 7 = .ok (.newarray .char, 2) := by decide +kernel
theorem dX2_init_9 : decode cX2_init 9 = .ok (.putfield 9, 3) := by decide +kernel
theorem dX2_init_12 : decode cX2_init 12 = .ok (.aload_n 0, 1) := by decide +kernel
theorem dX2_init_13 : decode cX2_init 13 = .ok (.bipush 61, 2) := by decide +kernel
theorem dX2_init_15 : decode cX2_init 15 = .ok (.newarray .int, 2) := by decide +kernel
theorem dX2_init_17 : decode cX2_init 17 = .ok (.putfield 15, 3) := by decide +kernel
theorem dX2_init_20 : decode cX2_init 20 = .ok (.return_, 1) := by decide +kernel
set_option maxRecDepth 20000 in
theorem ggX3_init_X0_init : GoodIn wsX3_init wsX0_init := goodIn_r _ [13, 14, 2, 3, 8, 15, 16, 17, 18, 19, 20, 21, 22, 23, 24, 25, 26, 27, 28, 29, 30, 31, 32] (by decide +kernel) (by decide +kernel)
set_option maxRecDepth 20000 in
theorem gX3_init_X0_init_n11 : GoodIn wsX3_init (wsX0_init) := ggX3_init_X0_init
theorem dX3_init_0 : decode cX3_init 0 = .ok (.aload_n 0, 1) := by decide +kernel
theorem dX3_init_1 : decode cX3_init 1 = .ok (.invokespecial 3, 3) := by decide +kernel
theorem dX3_init_4 : decode cX3_init 4 = .ok (.aload_n 0, 1) := by decide +kernel
theorem dX3_init_5 : decode cX3_init 5 = .ok (.new 9, 3) := by decide +kernel
theorem dX3_init_8 : decode cX3_init 8 = .ok (.dup, 1) := by decide +kernel
theorem dX3_init_9 : decode cX3_init 9 = .ok (.invokespecial 11, 3) := by decide +kernel
theorem dX3_init_12 : decode cX3_init 12 = .ok (.putfield 12, 3) := by decide +kernel
theorem dX3_init_15 : decode cX3_init 15 = .ok (.aload_n 0, 1) := by decide +kernel
theorem dX3_init_16 : decode cX3_init 16 = .ok (.bipush 120, 2) := by decide +kernel
theorem dX3_init_18 : decode cX3_init 18 = .ok (.newarray .int, 2) := by decide +kernel
theorem dX3_init_20 : decode cX3_init 20 = .ok (.putfield 18, 3) := by decide +kernel
theorem dX3_init_23 : decode cX3_init 23 = .ok (.aload_n 0, 1) := by decide +kernel
theorem dX3_init_24 : decode cX3_init 24 = .ok (.bipush 120, 2) := by decide +kernel
theorem dX3_init_26 : decode cX3_init 26 = .ok (.newarray .int, 2) := by decide +kernel
theorem dX3_init_28 : decode cX3_init 28 = .ok (.putfield 22, 3) := by decide +kernel
theorem dX3_init_31 : decode cX3_init 31 = .ok (.aload_n 0, 1) := by decide +kernel
theorem dX3_init_32 : decode cX3_init 32 = .ok (.bipush 120, 2) := by decide +kernel
theorem dX3_init_34 : decode cX3_init 34 = .ok (.newarray .int, 2) := by decide +kernel
theorem dX3_init_36 : decode cX3_init 36 = .ok (.putfield 25, 3) := by decide +kernel
theorem dX3_init_39 : decode cX3_init 39 = .ok (.return_, 1) := by decide +kernel
theorem dX3_forget_0 : decode cX3_forget 0 = .ok (.aload_n 0, 1) := by decide +kernel
theorem dX3_forget_1 : decode cX3_forget 1 = .ok (.iconst 0, 1) := by decide +kernel
theorem dX3_forget_2 : decode cX3_forget 2 = .ok (.putfield 28, 3) := by decide +kernel
theorem dX3_forget_5 : decode cX3_forget 5 = .ok (.return_, 1) := by decide +kernel
set_option maxRecDepth 20000 in
theorem ggX3_look_X3_cellOf : GoodIn wsX3_look wsX3_cellOf := goodIn_r _ [11] (by decide +kernel) (by decide +kernel)
set_option maxRecDepth 20000 in
theorem gX3_look_X3_cellOf : GoodIn wsX3_look (va_wsS RX3 39 yX3_cellOf wsX3_cellOf) := goodIn_app (goodIn_of _ (by decide +kernel)) ggX3_look_X3_cellOf
set_option maxRecDepth 20000 in
theorem ggX3_look_X0_peopleInWay : GoodIn wsX3_look wsX0_peopleInWay := goodIn_r _ [16, 17, 18, 19, 20, 15, 21, 22, 23, 24, 25, 26, 27, 28, 29, 30, 31, 32, 33, 34, 35, 36, 37, 38, 39, 40, 41, 42, 43, 44, 45, 73, 74, 75, 76, 77, 78, 79, 80, 81, 82] (by decide +kernel) (by decide +kernel)
set_option maxRecDepth 20000 in
theorem gX3_look_X0_peopleInWay : GoodIn wsX3_look (wsV RX3 43 RX0 yX0_peopleInWay wsX0_peopleInWay) := goodIn_app (goodIn_of _ (by decide +kernel)) ggX3_look_X0_peopleInWay
set_option maxRecDepth 20000 in
theorem ggX3_look_X0_columnsInWay : GoodIn wsX3_look wsX0_columnsInWay := goodIn_r _ [49, 50, 51, 52, 53, 15, 54, 27, 55, 56, 28, 29, 30, 31, 57, 32, 33, 34, 35, 17, 73, 74, 75, 76, 77, 78, 79, 80, 81, 82] (by decide +kernel) (by decide +kernel)
set_option maxRecDepth 20000 in
theorem gX3_look_X0_columnsInWay : GoodIn wsX3_look (wsV RX3 46 RX0 yX0_columnsInWay wsX0_columnsInWay) := goodIn_app (goodIn_of _ (by decide +kernel)) ggX3_look_X0_columnsInWay
set_option maxRecDepth 20000 in
theorem ggX3_look_X3_rankOf : GoodIn wsX3_look wsX3_rankOf := goodIn_r _ [61, 2, 62, 29, 30, 31, 63, 64, 65, 10, 66, 5, 6, 8, 9, 11, 67, 33, 34, 15, 35, 17, 68, 69, 70, 71, 72, 73, 74, 75, 76, 77, 78, 79, 80, 81, 82] (by decide +kernel) (by decide +kernel)
set_option maxRecDepth 20000 in
theorem gX3_look_X3_rankOf : GoodIn wsX3_look (wsV RX3 49 RX3 yX3_rankOf wsX3_rankOf) := goodIn_app (goodIn_of _ (by decide +kernel)) ggX3_look_X3_rankOf
theorem dX3_look_0 : decode cX3_look 0 = .ok (.aload_n 0, 1) := by decide +kernel
theorem dX3_look_1 : decode cX3_look 1 = .ok (.getfield 28, 3) := by decide +kernel
theorem dX3_look_4 : decode cX3_look 4 = .ok (.ifCond .eq 4, 3) := by decide +kernel
theorem dX3_look_7 : decode cX3_look 7 = .ok (.return_, 1) := by decide +kernel
theorem dX3_look_8 : decode cX3_look 8 = .ok (.iconst 0, 1) := by decide +kernel
theorem dX3_look_9 : decode cX3_look 9 = .ok (.istore_n 1, 1) := by decide +kernel
theorem dX3_look_10 : decode cX3_look 10 = .ok (.iload_n 1, 1) := by decide +kernel
theorem dX3_look_11 : decode cX3_look 11 = .ok (.aload_n 0, 1) := by decide +kernel
theorem dX3_look_12 : decode cX3_look 12 = .ok (.getfield 12, 3) := by decide +kernel
theorem dX3_look_15 : decode cX3_look 15 = .ok (.getfield 32, 3) := by decide +kernel
theorem dX3_look_18 : decode cX3_look 18 = .ok (.if_icmp .ge 78, 3) := by decide +kernel
theorem dX3_look_21 : decode cX3_look 21 = .ok (.iconst 0, 1) := by decide +kernel
theorem dX3_look_22 : decode cX3_look 22 = .ok (.istore_n 2, 1) := by decide +kernel
theorem dX3_look_23 : decode cX3_look 23 = .ok (.iload_n 2, 1) := by decide +kernel
theorem dX3_look_24 : decode cX3_look 24 = .ok (.aload_n 0, 1) := by decide +kernel
theorem dX3_look_25 : decode cX3_look 25 = .ok (.getfield 12, 3) := by decide +kernel
theorem dX3_look_28 : decode cX3_look 28 = .ok (.getfield 36, 3) := by decide +kernel
theorem dX3_look_31 : decode cX3_look 31 = .ok (.iload_n 1, 1) := by decide +kernel
theorem dX3_look_32 : decode cX3_look 32 = .ok (.iaload, 1) := by decide +kernel
theorem dX3_look_33 : decode cX3_look 33 = .ok (.if_icmp .ge 57, 3) := by decide +kernel
theorem dX3_look_36 : decode cX3_look 36 = .ok (.iload_n 1, 1) := by decide +kernel
theorem dX3_look_37 : decode cX3_look 37 = .ok (.iload_n 2, 1) := by decide +kernel
theorem dX3_look_38 : decode cX3_look 38 = .ok (.invokestatic 39, 3) := by decide +kernel
theorem dX3_look_41 : decode cX3_look 41 = .ok (.istore_n 3, 1) := by decide +kernel
theorem dX3_look_42 : decode cX3_look 42 = .ok (.aload_n 0, 1) := by decide +kernel
theorem dX3_look_43 : decode cX3_look 43 = .ok (.getfield 18, 3) := by decide +kernel
theorem dX3_look_46 : decode cX3_look 46 = .ok (.iload_n 3, 1) := by decide +kernel
theorem dX3_look_47 : decode cX3_look 47 = .ok (.aload_n 0, 1) := by decide +kernel
theorem dX3_look_48 : decode cX3_look 48 = .ok (.getfield 12, 3) := by decide +kernel
theorem dX3_look_51 : decode cX3_look 51 = .ok (.iload_n 1, 1) := by decide +kernel
theorem dX3_look_52 : decode cX3_look 52 = .ok (.iload_n 2, 1) := by decide +kernel
theorem dX3_look_53 : decode cX3_look 53 = .ok (.invokevirtual 43, 3) := by decide +kernel
theorem dX3_look_56 : decode cX3_look 56 = .ok (.iastore, 1) := by decide +kernel
theorem dX3_look_57 : decode cX3_look 57 = .ok (.aload_n 0, 1) := by decide +kernel
theorem dX3_look_58 : decode cX3_look 58 = .ok (.getfield 22, 3) := by decide +kernel
theorem dX3_look_61 : decode cX3_look 61 = .ok (.iload_n 3, 1) := by decide +kernel
theorem dX3_look_62 : decode cX3_look 62 = .ok (.aload_n 0, 1) := by decide +kernel
theorem dX3_look_63 : decode cX3_look 63 = .ok (.getfield 12, 3) := by decide +kernel
theorem dX3_look_66 : decode cX3_look 66 = .ok (.iload_n 1, 1) := by decide +kernel
theorem dX3_look_67 : decode cX3_look 67 = .ok (.iload_n 2, 1) := by decide +kernel
theorem dX3_look_68 : decode cX3_look 68 = .ok (.invokevirtual 46, 3) := by decide +kernel
theorem dX3_look_71 : decode cX3_look 71 = .ok (.iastore, 1) := by decide +kernel
theorem dX3_look_72 : decode cX3_look 72 = .ok (.aload_n 0, 1) := by decide +kernel
theorem dX3_look_73 : decode cX3_look 73 = .ok (.getfield 25, 3) := by decide +kernel
theorem dX3_look_76 : decode cX3_look 76 = .ok (.iload_n 3, 1) := by decide +kernel
theorem dX3_look_77 : decode cX3_look 77 = .ok (.aload_n 0, 1) := by decide +kernel
theorem dX3_look_78 : decode cX3_look 78 = .ok (.iload_n 1, 1) := by decide +kernel
theorem dX3_look_79 : decode cX3_look 79 = .ok (.iload_n 2, 1) := by decide +kernel
theorem dX3_look_80 : decode cX3_look 80 = .ok (.invokevirtual 49, 3) := by decide +kernel
theorem dX3_look_83 : decode cX3_look 83 = .ok (.iastore, 1) := by decide +kernel
theorem dX3_look_84 : decode cX3_look 84 = .ok (.iinc 2 1, 3) := by decide +kernel
theorem dX3_look_87 : decode cX3_look 87 = .ok (.goto (-64), 3) := by decide +kernel
theorem dX3_look_90 : decode cX3_look 90 = .ok (.iinc 1 1, 3) := by decide +kernel
theorem dX3_look_93 : decode cX3_look 93 = .ok (.goto (-83), 3) := by decide +kernel
theorem dX3_look_96 : decode cX3_look 96 = .ok (.aload_n 0, 1) := by decide +kernel
theorem dX3_look_97 : decode cX3_look 97 = .ok (.iconst 1, 1) := by decide +kernel
theorem dX3_look_98 : decode cX3_look 98 = .ok (.putfield 28, 3) := by decide +kernel
theorem dX3_look_101 : decode cX3_look 101 = .ok (.return_, 1) := by decide +kernel
theorem dX3_cellOf_0 : decode cX3_cellOf 0 = .ok (.iload_n 0, 1) := by decide +kernel
theorem dX3_cellOf_1 : decode cX3_cellOf 1 = .ok (.bipush 12, 2) := by decide +kernel
theorem dX3_cellOf_3 : decode cX3_cellOf 3 = .ok (.imul, 1) := by decide +kernel
theorem dX3_cellOf_4 : decode cX3_cellOf 4 = .ok (.iload_n 1, 1) := by decide +kernel
theorem dX3_cellOf_5 : decode cX3_cellOf 5 = .ok (.iadd, 1) := by decide +kernel
theorem dX3_cellOf_6 : decode cX3_cellOf 6 = .ok (.ireturn, 1) := by decide +kernel
set_option maxRecDepth 20000 in
theorem ggX3_rankOf_X3_allInWay : GoodIn wsX3_rankOf wsX3_allInWay := goodIn_r _ [10, 11, 12, 13, 14, 9, 15, 22, 23, 24, 25, 26] (by decide +kernel) (by decide +kernel)
set_option maxRecDepth 20000 in
theorem gX3_rankOf_X3_allInWay : GoodIn wsX3_rankOf (wsV RX3 52 RX3 yX3_allInWay wsX3_allInWay) := goodIn_app (goodIn_of _ (by decide +kernel)) ggX3_rankOf_X3_allInWay
set_option maxRecDepth 20000 in
theorem ggX3_rankOf_X0_sideOf : GoodIn wsX3_rankOf wsX0_sideOf := goodIn_r _ [20, 21, 27, 28, 29, 30, 31, 32, 33, 34, 35, 36] (by decide +kernel) (by decide +kernel)
set_option maxRecDepth 20000 in
theorem gX3_rankOf_X0_sideOf : GoodIn wsX3_rankOf (wsV RX3 55 RX0 yX0_sideOf wsX0_sideOf) := goodIn_app (goodIn_of _ (by decide +kernel)) ggX3_rankOf_X0_sideOf
theorem dX3_rankOf_0 : decode cX3_rankOf 0 = .ok (.aload_n 0, 1) := by decide +kernel
theorem dX3_rankOf_1 : decode cX3_rankOf 1 = .ok (.iload_n 1, 1) := by decide +kernel
theorem dX3_rankOf_2 : decode cX3_rankOf 2 = .ok (.iload_n 2, 1) := by decide +kernel
theorem dX3_rankOf_3 : decode cX3_rankOf 3 = .ok (.invokevirtual 52, 3) := by decide +kernel
theorem dX3_rankOf_6 : decode cX3_rankOf 6 = .ok (.bipush 10, 2) := by decide +kernel
theorem dX3_rankOf_8 : decode cX3_rankOf 8 = .ok (.imul, 1) := by decide +kernel
theorem dX3_rankOf_9 : decode cX3_rankOf 9 = .ok (.iload_n 1, 1) := by decide +kernel
theorem dX3_rankOf_10 : decode cX3_rankOf 10 = .ok (.iadd, 1) := by decide +kernel
theorem dX3_rankOf_11 : decode cX3_rankOf 11 = .ok (.istore_n 3, 1) := by decide +kernel
theorem dX3_rankOf_12 : decode cX3_rankOf 12 = .ok (.iload_n 3, 1) := by decide +kernel
theorem dX3_rankOf_13 : decode cX3_rankOf 13 = .ok (.bipush 12, 2) := by decide +kernel
theorem dX3_rankOf_15 : decode cX3_rankOf 15 = .ok (.imul, 1) := by decide +kernel
theorem dX3_rankOf_16 : decode cX3_rankOf 16 = .ok (.aload_n 0, 1) := by decide +kernel
theorem dX3_rankOf_17 : decode cX3_rankOf 17 = .ok (.getfield 12, 3) := by decide +kernel
theorem dX3_rankOf_20 : decode cX3_rankOf 20 = .ok (.iload_n 1, 1) := by decide +kernel
theorem dX3_rankOf_21 : decode cX3_rankOf 21 = .ok (.iload_n 2, 1) := by decide +kernel
theorem dX3_rankOf_22 : decode cX3_rankOf 22 = .ok (.invokevirtual 55, 3) := by decide +kernel
theorem dX3_rankOf_25 : decode cX3_rankOf 25 = .ok (.invokestatic 58, 3) := by decide +kernel
theorem dX3_rankOf_28 : decode cX3_rankOf 28 = .ok (.iadd, 1) := by decide +kernel
theorem dX3_rankOf_29 : decode cX3_rankOf 29 = .ok (.istore_n 3, 1) := by decide +kernel
theorem dX3_rankOf_30 : decode cX3_rankOf 30 = .ok (.iload_n 3, 1) := by decide +kernel
theorem dX3_rankOf_31 : decode cX3_rankOf 31 = .ok (.bipush 12, 2) := by decide +kernel
theorem dX3_rankOf_33 : decode cX3_rankOf 33 = .ok (.imul, 1) := by decide +kernel
theorem dX3_rankOf_34 : decode cX3_rankOf 34 = .ok (.iload_n 2, 1) := by decide +kernel
theorem dX3_rankOf_35 : decode cX3_rankOf 35 = .ok (.iadd, 1) := by decide +kernel
theorem dX3_rankOf_36 : decode cX3_rankOf 36 = .ok (.ireturn, 1) := by decide +kernel
set_option maxRecDepth 20000 in
theorem ggX3_allInWay_X3_cellOf : GoodIn wsX3_allInWay wsX3_cellOf := goodIn_r _ [6] (by decide +kernel) (by decide +kernel)
set_option maxRecDepth 20000 in
theorem gX3_allInWay_X3_cellOf : GoodIn wsX3_allInWay (va_wsS RX3 39 yX3_cellOf wsX3_cellOf) := goodIn_app (goodIn_of _ (by decide +kernel)) ggX3_allInWay_X3_cellOf
theorem dX3_allInWay_0 : decode cX3_allInWay 0 = .ok (.iload_n 1, 1) := by decide +kernel
theorem dX3_allInWay_1 : decode cX3_allInWay 1 = .ok (.iload_n 2, 1) := by decide +kernel
theorem dX3_allInWay_2 : decode cX3_allInWay 2 = .ok (.invokestatic 39, 3) := by decide +kernel
theorem dX3_allInWay_5 : decode cX3_allInWay 5 = .ok (.istore_n 3, 1) := by decide +kernel
theorem dX3_allInWay_6 : decode cX3_allInWay 6 = .ok (.aload_n 0, 1) := by decide +kernel
theorem dX3_allInWay_7 : decode cX3_allInWay 7 = .ok (.getfield 18, 3) := by decide +kernel
theorem dX3_allInWay_10 : decode cX3_allInWay 10 = .ok (.iload_n 3, 1) := by decide +kernel
theorem dX3_allInWay_11 : decode cX3_allInWay 11 = .ok (.iaload, 1) := by decide +kernel
theorem dX3_allInWay_12 : decode cX3_allInWay 12 = .ok (.aload_n 0, 1) := by decide +kernel
theorem dX3_allInWay_13 : decode cX3_allInWay 13 = .ok (.getfield 22, 3) := by decide +kernel
theorem dX3_allInWay_16 : decode cX3_allInWay 16 = .ok (.iload_n 3, 1) := by decide +kernel
theorem dX3_allInWay_17 : decode cX3_allInWay 17 = .ok (.iaload, 1) := by decide +kernel
theorem dX3_allInWay_18 : decode cX3_allInWay 18 = .ok (.iadd, 1) := by decide +kernel
theorem dX3_allInWay_19 : decode cX3_allInWay 19 = .ok (.ireturn, 1) := by decide +kernel
set_option maxRecDepth 20000 in
theorem ggX3_sees_X3_allInWay : GoodIn wsX3_sees wsX3_allInWay := goodIn_r _ [5, 6, 7, 8, 9, 4, 10, 11, 12, 13, 14, 15] (by decide +kernel) (by decide +kernel)
set_option maxRecDepth 20000 in
theorem gX3_sees_X3_allInWay : GoodIn wsX3_sees (wsV RX3 52 RX3 yX3_allInWay wsX3_allInWay) := goodIn_app (goodIn_of _ (by decide +kernel)) ggX3_sees_X3_allInWay
theorem dX3_sees_0 : decode cX3_sees 0 = .ok (.aload_n 0, 1) := by decide +kernel
theorem dX3_sees_1 : decode cX3_sees 1 = .ok (.iload_n 1, 1) := by decide +kernel
theorem dX3_sees_2 : decode cX3_sees 2 = .ok (.iload_n 2, 1) := by decide +kernel
theorem dX3_sees_3 : decode cX3_sees 3 = .ok (.invokevirtual 52, 3) := by decide +kernel
theorem dX3_sees_6 : decode cX3_sees 6 = .ok (.ifCond .ne 7, 3) := by decide +kernel
theorem dX3_sees_9 : decode cX3_sees 9 = .ok (.iconst 1, 1) := by decide +kernel
theorem dX3_sees_10 : decode cX3_sees 10 = .ok (.goto 4, 3) := by decide +kernel
theorem dX3_sees_13 : decode cX3_sees 13 = .ok (.iconst 0, 1) := by decide +kernel
theorem dX3_sees_14 : decode cX3_sees 14 = .ok (.ireturn, 1) := by decide +kernel
set_option maxRecDepth 20000 in
theorem ggX3_seeingInRow_X3_sees : GoodIn wsX3_seeingInRow wsX3_sees := goodIn_r _ [7, 8, 9, 10, 6, 11, 12, 13, 14, 15, 16, 17, 18, 19, 20, 21] (by decide +kernel) (by decide +kernel)
set_option maxRecDepth 20000 in
theorem gX3_seeingInRow_X3_sees : GoodIn wsX3_seeingInRow (wsV RX3 64 RX3 yX3_sees wsX3_sees) := goodIn_app (goodIn_of _ (by decide +kernel)) ggX3_seeingInRow_X3_sees
theorem dX3_seeingInRow_0 : decode cX3_seeingInRow 0 = .ok (.iconst 0, 1) := by decide +kernel
theorem dX3_seeingInRow_1 : decode cX3_seeingInRow 1 = .ok (.istore_n 2, 1) := by decide +kernel
theorem dX3_seeingInRow_2 : decode cX3_seeingInRow 2 = .ok (.iconst 0, 1) := by decide +kernel
theorem dX3_seeingInRow_3 : decode cX3_seeingInRow 3 = .ok (.istore_n 3, 1) := by decide +kernel
theorem dX3_seeingInRow_4 : decode cX3_seeingInRow 4 = .ok (.iload_n 3, 1) := by decide +kernel
theorem dX3_seeingInRow_5 : decode cX3_seeingInRow 5 = .ok (.aload_n 0, 1) := by decide +kernel
theorem dX3_seeingInRow_6 : decode cX3_seeingInRow 6 = .ok (.getfield 12, 3) := by decide +kernel
theorem dX3_seeingInRow_9 : decode cX3_seeingInRow 9 = .ok (.getfield 36, 3) := by decide +kernel
theorem dX3_seeingInRow_12 : decode cX3_seeingInRow 12 = .ok (.iload_n 1, 1) := by decide +kernel
theorem dX3_seeingInRow_13 : decode cX3_seeingInRow 13 = .ok (.iaload, 1) := by decide +kernel
theorem dX3_seeingInRow_14 : decode cX3_seeingInRow 14 = .ok (.if_icmp .ge 21, 3) := by decide +kernel
theorem dX3_seeingInRow_17 : decode cX3_seeingInRow 17 = .ok (.aload_n 0, 1) := by decide +kernel
theorem dX3_seeingInRow_18 : decode cX3_seeingInRow 18 = .ok (.iload_n 1, 1) := by decide +kernel
theorem dX3_seeingInRow_19 : decode cX3_seeingInRow 19 = .ok (.iload_n 3, 1) := by decide +kernel
theorem dX3_seeingInRow_20 : decode cX3_seeingInRow 20 = .ok (.invokevirtual 64, 3) := by decide +kernel
theorem dX3_seeingInRow_23 : decode cX3_seeingInRow 23 = .ok (.ifCond .eq 6, 3) := by decide +kernel
theorem dX3_seeingInRow_26 : decode cX3_seeingInRow 26 = .ok (.iinc 2 1, 3) := by decide +kernel
theorem dX3_seeingInRow_29 : decode cX3_seeingInRow 29 = .ok (.iinc 3 1, 3) := by decide +kernel
theorem dX3_seeingInRow_32 : decode cX3_seeingInRow 32 = .ok (.goto (-28), 3) := by decide +kernel
theorem dX3_seeingInRow_35 : decode cX3_seeingInRow 35 = .ok (.iload_n 2, 1) := by decide +kernel
theorem dX3_seeingInRow_36 : decode cX3_seeingInRow 36 = .ok (.ireturn, 1) := by decide +kernel
set_option maxRecDepth 20000 in
theorem ggX3_seeing_X3_seeingInRow : GoodIn wsX3_seeing wsX3_seeingInRow := goodIn_r _ [7, 1, 8, 9, 10, 11, 6, 12, 13, 14, 15, 16, 17, 18, 19, 20, 21, 22, 23, 24, 25, 26, 27, 28, 29, 30, 31, 32, 33, 34, 35, 36] (by decide +kernel) (by decide +kernel)
set_option maxRecDepth 20000 in
theorem gX3_seeing_X3_seeingInRow : GoodIn wsX3_seeing (wsV RX3 68 RX3 yX3_seeingInRow wsX3_seeingInRow) := goodIn_app (goodIn_of _ (by decide +kernel)) ggX3_seeing_X3_seeingInRow
theorem dX3_seeing_0 : decode cX3_seeing 0 = .ok (.iconst 0, 1) := by decide +kernel
theorem dX3_seeing_1 : decode cX3_seeing 1 = .ok (.istore_n 1, 1) := by decide +kernel
theorem dX3_seeing_2 : decode cX3_seeing 2 = .ok (.iconst 0, 1) := by decide +kernel
theorem dX3_seeing_3 : decode cX3_seeing 3 = .ok (.istore_n 2, 1) := by decide +kernel
theorem dX3_seeing_4 : decode cX3_seeing 4 = .ok (.iload_n 2, 1) := by decide +kernel
theorem dX3_seeing_5 : decode cX3_seeing 5 = .ok (.aload_n 0, 1) := by decide +kernel
theorem dX3_seeing_6 : decode cX3_seeing 6 = .ok (.getfield 12, 3) := by decide +kernel
theorem dX3_seeing_9 : decode cX3_seeing 9 = .ok (.getfield 32, 3) := by decide +kernel
theorem dX3_seeing_12 : decode cX3_seeing 12 = .ok (.if_icmp .ge 17, 3) := by decide +kernel
theorem dX3_seeing_15 : decode cX3_seeing 15 = .ok (.iload_n 1, 1) := by decide +kernel
theorem dX3_seeing_16 : decode cX3_seeing 16 = .ok (.aload_n 0, 1) := by decide +kernel
theorem dX3_seeing_17 : decode cX3_seeing 17 = .ok (.iload_n 2, 1) := by decide +kernel
theorem dX3_seeing_18 : decode cX3_seeing 18 = .ok (.invokevirtual 68, 3) := by decide +kernel
theorem dX3_seeing_21 : decode cX3_seeing 21 = .ok (.iadd, 1) := by decide +kernel
theorem dX3_seeing_22 : decode cX3_seeing 22 = .ok (.istore_n 1, 1) := by decide +kernel
theorem dX3_seeing_23 : decode cX3_seeing 23 = .ok (.iinc 2 1, 3) := by decide +kernel
theorem dX3_seeing_26 : decode cX3_seeing 26 = .ok (.goto (-22), 3) := by decide +kernel
theorem dX3_seeing_29 : decode cX3_seeing 29 = .ok (.iload_n 1, 1) := by decide +kernel
theorem dX3_seeing_30 : decode cX3_seeing 30 = .ok (.ireturn, 1) := by decide +kernel
set_option maxRecDepth 20000 in
theorem ggX3_takenSeeing_X0_isTaken : GoodIn wsX3_takenSeeing wsX0_isTaken := goodIn_r _ [8, 9, 29, 30, 31, 32, 33, 34, 35, 36, 37, 38] (by decide +kernel) (by decide +kernel)
set_option maxRecDepth 20000 in
theorem gX3_takenSeeing_X0_isTaken : GoodIn wsX3_takenSeeing (wsV RX3 71 RX0 yX0_isTaken wsX0_isTaken) := goodIn_app (goodIn_of _ (by decide +kernel)) ggX3_takenSeeing_X0_isTaken
set_option maxRecDepth 20000 in
theorem ggX3_takenSeeing_X3_sees : GoodIn wsX3_takenSeeing wsX3_sees := goodIn_r _ [14, 15, 16, 17, 13, 18, 19, 20, 21, 22, 23, 24, 25, 26, 27, 28] (by decide +kernel) (by decide +kernel)
set_option maxRecDepth 20000 in
theorem gX3_takenSeeing_X3_sees : GoodIn wsX3_takenSeeing (wsV RX3 64 RX3 yX3_sees wsX3_sees) := goodIn_app (goodIn_of _ (by decide +kernel)) ggX3_takenSeeing_X3_sees
theorem dX3_takenSeeing_0 : decode cX3_takenSeeing 0 = .ok (.iconst 0, 1) := by decide +kernel
theorem dX3_takenSeeing_1 : decode cX3_takenSeeing 1 = .ok (.istore_n 1, 1) := by decide +kernel
theorem dX3_takenSeeing_2 : decode cX3_takenSeeing 2 = .ok (.iconst 0, 1) := by decide +kernel
theorem dX3_takenSeeing_3 : decode cX3_takenSeeing 3 = .ok (.istore_n 2, 1) := by decide +kernel
theorem dX3_takenSeeing_4 : decode cX3_takenSeeing 4 = .ok (.iload_n 2, 1) := by decide +kernel
theorem dX3_takenSeeing_5 : decode cX3_takenSeeing 5 = .ok (.aload_n 0, 1) := by decide +kernel
theorem dX3_takenSeeing_6 : decode cX3_takenSeeing 6 = .ok (.getfield 12, 3) := by decide +kernel
theorem dX3_takenSeeing_9 : decode cX3_takenSeeing 9 = .ok (.getfield 32, 3) := by decide +kernel
theorem dX3_takenSeeing_12 : decode cX3_takenSeeing 12 = .ok (.if_icmp .ge 54, 3) := by decide +kernel
theorem dX3_takenSeeing_15 : decode cX3_takenSeeing 15 = .ok (.iconst 0, 1) := by decide +kernel
theorem dX3_takenSeeing_16 : decode cX3_takenSeeing 16 = .ok (.istore_n 3, 1) := by decide +kernel
theorem dX3_takenSeeing_17 : decode cX3_takenSeeing 17 = .ok (.iload_n 3, 1) := by decide +kernel
theorem dX3_takenSeeing_18 : decode cX3_takenSeeing 18 = .ok (.aload_n 0, 1) := by decide +kernel
theorem dX3_takenSeeing_19 : decode cX3_takenSeeing 19 = .ok (.getfield 12, 3) := by decide +kernel
theorem dX3_takenSeeing_22 : decode cX3_takenSeeing 22 = .ok (.getfield 36, 3) := by decide +kernel
theorem dX3_takenSeeing_25 : decode cX3_takenSeeing 25 = .ok (.iload_n 2, 1) := by decide +kernel
theorem dX3_takenSeeing_26 : decode cX3_takenSeeing 26 = .ok (.iaload, 1) := by decide +kernel
theorem dX3_takenSeeing_27 : decode cX3_takenSeeing 27 = .ok (.if_icmp .ge 33, 3) := by decide +kernel
theorem dX3_takenSeeing_30 : decode cX3_takenSeeing 30 = .ok (.aload_n 0, 1) := by decide +kernel
theorem dX3_takenSeeing_31 : decode cX3_takenSeeing 31 = .ok (.getfield 12, 3) := by decide +kernel
theorem dX3_takenSeeing_34 : decode cX3_takenSeeing 34 = .ok (.iload_n 2, 1) := by decide +kernel
theorem dX3_takenSeeing_35 : decode cX3_takenSeeing 35 = .ok (.iload_n 3, 1) := by decide +kernel
theorem dX3_takenSeeing_36 : decode cX3_takenSeeing 36 = .ok (.invokevirtual 71, 3) := by decide +kernel
theorem dX3_takenSeeing_39 : decode cX3_takenSeeing 39 = .ok (.ifCond .eq 15, 3) := by decide +kernel
theorem dX3_takenSeeing_42 : decode cX3_takenSeeing 42 = .ok (.aload_n 0, 1) := by decide +kernel
theorem dX3_takenSeeing_43 : decode cX3_takenSeeing 43 = .ok (.iload_n 2, 1) := by decide +kernel
theorem dX3_takenSeeing_44 : decode cX3_takenSeeing 44 = .ok (.iload_n 3, 1) := by decide +kernel
theorem dX3_takenSeeing_45 : decode cX3_takenSeeing 45 = .ok (.invokevirtual 64, 3) := by decide +kernel
theorem dX3_takenSeeing_48 : decode cX3_takenSeeing 48 = .ok (.ifCond .eq 6, 3) := by decide +kernel
theorem dX3_takenSeeing_51 : decode cX3_takenSeeing 51 = .ok (.iinc 1 1, 3) := by decide +kernel
theorem dX3_takenSeeing_54 : decode cX3_takenSeeing 54 = .ok (.iinc 3 1, 3) := by decide +kernel
theorem dX3_takenSeeing_57 : decode cX3_takenSeeing 57 = .ok (.goto (-40), 3) := by decide +kernel
theorem dX3_takenSeeing_60 : decode cX3_takenSeeing 60 = .ok (.iinc 2 1, 3) := by decide +kernel
theorem dX3_takenSeeing_63 : decode cX3_takenSeeing 63 = .ok (.goto (-59), 3) := by decide +kernel
theorem dX3_takenSeeing_66 : decode cX3_takenSeeing 66 = .ok (.iload_n 1, 1) := by decide +kernel
theorem dX3_takenSeeing_67 : decode cX3_takenSeeing 67 = .ok (.ireturn, 1) := by decide +kernel
set_option maxRecDepth 20000 in
theorem ggX3_pairsInWay_X0_isTaken : GoodIn wsX3_pairsInWay wsX0_isTaken := goodIn_r _ [9, 10, 20, 21, 22, 23, 24, 25, 26, 27, 28, 29] (by decide +kernel) (by decide +kernel)
set_option maxRecDepth 20000 in
theorem gX3_pairsInWay_X0_isTaken : GoodIn wsX3_pairsInWay (wsV RX3 71 RX0 yX0_isTaken wsX0_isTaken) := goodIn_app (goodIn_of _ (by decide +kernel)) ggX3_pairsInWay_X0_isTaken
set_option maxRecDepth 20000 in
theorem ggX3_pairsInWay_X3_cellOf : GoodIn wsX3_pairsInWay wsX3_cellOf := goodIn_r _ [14] (by decide +kernel) (by decide +kernel)
set_option maxRecDepth 20000 in
theorem gX3_pairsInWay_X3_cellOf : GoodIn wsX3_pairsInWay (va_wsS RX3 39 yX3_cellOf wsX3_cellOf) := goodIn_app (goodIn_of _ (by decide +kernel)) ggX3_pairsInWay_X3_cellOf
theorem dX3_pairsInWay_0 : decode cX3_pairsInWay 0 = .ok (.iconst 0, 1) := by decide +kernel
theorem dX3_pairsInWay_1 : decode cX3_pairsInWay 1 = .ok (.istore_n 1, 1) := by decide +kernel
theorem dX3_pairsInWay_2 : decode cX3_pairsInWay 2 = .ok (.iconst 0, 1) := by decide +kernel
theorem dX3_pairsInWay_3 : decode cX3_pairsInWay 3 = .ok (.istore_n 2, 1) := by decide +kernel
theorem dX3_pairsInWay_4 : decode cX3_pairsInWay 4 = .ok (.iload_n 2, 1) := by decide +kernel
theorem dX3_pairsInWay_5 : decode cX3_pairsInWay 5 = .ok (.aload_n 0, 1) := by decide +kernel
theorem dX3_pairsInWay_6 : decode cX3_pairsInWay 6 = .ok (.getfield 12, 3) := by decide +kernel
theorem dX3_pairsInWay_9 : decode cX3_pairsInWay 9 = .ok (.getfield 32, 3) := by decide +kernel
theorem dX3_pairsInWay_12 : decode cX3_pairsInWay 12 = .ok (.if_icmp .ge 55, 3) := by decide +kernel
theorem dX3_pairsInWay_15 : decode cX3_pairsInWay 15 = .ok (.iconst 0, 1) := by decide +kernel
theorem dX3_pairsInWay_16 : decode cX3_pairsInWay 16 = .ok (.istore_n 3, 1) := by decide +kernel
theorem dX3_pairsInWay_17 : decode cX3_pairsInWay 17 = .ok (.iload_n 3, 1) := by decide +kernel
theorem dX3_pairsInWay_18 : decode cX3_pairsInWay 18 = .ok (.aload_n 0, 1) := by decide +kernel
theorem dX3_pairsInWay_19 : decode cX3_pairsInWay 19 = .ok (.getfield 12, 3) := by decide +kernel
theorem dX3_pairsInWay_22 : decode cX3_pairsInWay 22 = .ok (.getfield 36, 3) := by decide +kernel
theorem dX3_pairsInWay_25 : decode cX3_pairsInWay 25 = .ok (.iload_n 2, 1) := by decide +kernel
theorem dX3_pairsInWay_26 : decode cX3_pairsInWay 26 = .ok (.iaload, 1) := by decide +kernel
theorem dX3_pairsInWay_27 : decode cX3_pairsInWay 27 = .ok (.if_icmp .ge 34, 3) := by decide +kernel
theorem dX3_pairsInWay_30 : decode cX3_pairsInWay 30 = .ok (.aload_n 0, 1) := by decide +kernel
theorem dX3_pairsInWay_31 : decode cX3_pairsInWay 31 = .ok (.getfield 12, 3) := by decide +kernel
theorem dX3_pairsInWay_34 : decode cX3_pairsInWay 34 = .ok (.iload_n 2, 1) := by decide +kernel
theorem dX3_pairsInWay_35 : decode cX3_pairsInWay 35 = .ok (.iload_n 3, 1) := by decide +kernel
theorem dX3_pairsInWay_36 : decode cX3_pairsInWay 36 = .ok (.invokevirtual 71, 3) := by decide +kernel
theorem dX3_pairsInWay_39 : decode cX3_pairsInWay 39 = .ok (.ifCond .eq 16, 3) := by decide +kernel
theorem dX3_pairsInWay_42 : decode cX3_pairsInWay 42 = .ok (.iload_n 1, 1) := by decide +kernel
theorem dX3_pairsInWay_43 : decode cX3_pairsInWay 43 = .ok (.aload_n 0, 1) := by decide +kernel
theorem dX3_pairsInWay_44 : decode cX3_pairsInWay 44 = .ok (.getfield 18, 3) := by decide +kernel
theorem dX3_pairsInWay_47 : decode cX3_pairsInWay 47 = .ok (.iload_n 2, 1) := by decide +kernel
theorem dX3_pairsInWay_48 : decode cX3_pairsInWay 48 = .ok (.iload_n 3, 1) := by decide +kernel
theorem dX3_pairsInWay_49 : decode cX3_pairsInWay 49 = .ok (.invokestatic 39, 3) := by decide +kernel
theorem dX3_pairsInWay_52 : decode cX3_pairsInWay 52 = .ok (.iaload, 1) := by decide +kernel
theorem dX3_pairsInWay_53 : decode cX3_pairsInWay 53 = .ok (.iadd, 1) := by decide +kernel
theorem dX3_pairsInWay_54 : decode cX3_pairsInWay 54 = .ok (.istore_n 1, 1) := by decide +kernel
theorem dX3_pairsInWay_55 : decode cX3_pairsInWay 55 = .ok (.iinc 3 1, 3) := by decide +kernel
theorem dX3_pairsInWay_58 : decode cX3_pairsInWay 58 = .ok (.goto (-41), 3) := by decide +kernel
theorem dX3_pairsInWay_61 : decode cX3_pairsInWay 61 = .ok (.iinc 2 1, 3) := by decide +kernel
theorem dX3_pairsInWay_64 : decode cX3_pairsInWay 64 = .ok (.goto (-60), 3) := by decide +kernel
theorem dX3_pairsInWay_67 : decode cX3_pairsInWay 67 = .ok (.iload_n 1, 1) := by decide +kernel
theorem dX3_pairsInWay_68 : decode cX3_pairsInWay 68 = .ok (.ireturn, 1) := by decide +kernel
set_option maxRecDepth 20000 in
theorem ggX3_placeOf_X3_cellOf : GoodIn wsX3_placeOf wsX3_cellOf := goodIn_r _ [8] (by decide +kernel) (by decide +kernel)
set_option maxRecDepth 20000 in
theorem gX3_placeOf_X3_cellOf : GoodIn wsX3_placeOf (va_wsS RX3 39 yX3_cellOf wsX3_cellOf) := goodIn_app (goodIn_of _ (by decide +kernel)) ggX3_placeOf_X3_cellOf
set_option maxRecDepth 20000 in
theorem ggX3_placeOf_X0_isTaken : GoodIn wsX3_placeOf wsX0_isTaken := goodIn_r _ [13, 14, 20, 21, 22, 23, 24, 25, 26, 27, 28, 29] (by decide +kernel) (by decide +kernel)
set_option maxRecDepth 20000 in
theorem gX3_placeOf_X0_isTaken : GoodIn wsX3_placeOf (wsV RX3 71 RX0 yX0_isTaken wsX0_isTaken) := goodIn_app (goodIn_of _ (by decide +kernel)) ggX3_placeOf_X0_isTaken
theorem dX3_placeOf_0 : decode cX3_placeOf 0 = .ok (.aload_n 0, 1) := by decide +kernel
theorem dX3_placeOf_1 : decode cX3_placeOf 1 = .ok (.getfield 25, 3) := by decide +kernel
theorem dX3_placeOf_4 : decode cX3_placeOf 4 = .ok (.iload_n 1, 1) := by decide +kernel
theorem dX3_placeOf_5 : decode cX3_placeOf 5 = .ok (.iload_n 2, 1) := by decide +kernel
theorem dX3_placeOf_6 : decode cX3_placeOf 6 = .ok (.invokestatic 39, 3) := by decide +kernel
theorem dX3_placeOf_9 : decode cX3_placeOf 9 = .ok (.iaload, 1) := by decide +kernel
theorem dX3_placeOf_10 : decode cX3_placeOf 10 = .ok (.istore 4, 2) := by decide +kernel
theorem dX3_placeOf_12 : decode cX3_placeOf 12 = .ok (.iconst 0, 1) := by decide +kernel
theorem dX3_placeOf_13 : decode cX3_placeOf 13 = .ok (.istore 5, 2) := by decide +kernel
theorem dX3_placeOf_15 : decode cX3_placeOf 15 = .ok (.iconst 0, 1) := by decide +kernel
theorem dX3_placeOf_16 : decode cX3_placeOf 16 = .ok (.istore 6, 2) := by decide +kernel
theorem dX3_placeOf_18 : decode cX3_placeOf 18 = .ok (.iload 6, 2) := by decide +kernel
theorem dX3_placeOf_20 : decode cX3_placeOf 20 = .ok (.aload_n 0, 1) := by decide +kernel
theorem dX3_placeOf_21 : decode cX3_placeOf 21 = .ok (.getfield 12, 3) := by decide +kernel
theorem dX3_placeOf_24 : decode cX3_placeOf 24 = .ok (.getfield 32, 3) := by decide +kernel
theorem dX3_placeOf_27 : decode cX3_placeOf 27 = .ok (.if_icmp .ge 83, 3) := by decide +kernel
theorem dX3_placeOf_30 : decode cX3_placeOf 30 = .ok (.iconst 0, 1) := by decide +kernel
theorem dX3_placeOf_31 : decode cX3_placeOf 31 = .ok (.istore 7, 2) := by decide +kernel
theorem dX3_placeOf_33 : decode cX3_placeOf 33 = .ok (.iload 7, 2) := by decide +kernel
theorem dX3_placeOf_35 : decode cX3_placeOf 35 = .ok (.aload_n 0, 1) := by decide +kernel
theorem dX3_placeOf_36 : decode cX3_placeOf 36 = .ok (.getfield 12, 3) := by decide +kernel
theorem dX3_placeOf_39 : decode cX3_placeOf 39 = .ok (.getfield 36, 3) := by decide +kernel
theorem dX3_placeOf_42 : decode cX3_placeOf 42 = .ok (.iload 6, 2) := by decide +kernel
theorem dX3_placeOf_44 : decode cX3_placeOf 44 = .ok (.iaload, 1) := by decide +kernel
theorem dX3_placeOf_45 : decode cX3_placeOf 45 = .ok (.if_icmp .ge 59, 3) := by decide +kernel
theorem dX3_placeOf_48 : decode cX3_placeOf 48 = .ok (.iload_n 3, 1) := by decide +kernel
theorem dX3_placeOf_49 : decode cX3_placeOf 49 = .ok (.ifCond .eq 17, 3) := by decide +kernel
theorem dX3_placeOf_52 : decode cX3_placeOf 52 = .ok (.aload_n 0, 1) := by decide +kernel
theorem dX3_placeOf_53 : decode cX3_placeOf 53 = .ok (.getfield 12, 3) := by decide +kernel
theorem dX3_placeOf_56 : decode cX3_placeOf 56 = .ok (.iload 6, 2) := by decide +kernel
theorem dX3_placeOf_58 : decode cX3_placeOf 58 = .ok (.iload 7, 2) := by decide +kernel
theorem dX3_placeOf_60 : decode cX3_placeOf 60 = .ok (.invokevirtual 71, 3) := by decide +kernel
theorem dX3_placeOf_63 : decode cX3_placeOf 63 = .ok (.ifCond .ne 7, 3) := by decide +kernel
theorem dX3_placeOf_66 : decode cX3_placeOf 66 = .ok (.iconst 1, 1) := by decide +kernel
theorem dX3_placeOf_67 : decode cX3_placeOf 67 = .ok (.goto 4, 3) := by decide +kernel
theorem dX3_placeOf_70 : decode cX3_placeOf 70 = .ok (.iconst 0, 1) := by decide +kernel
theorem dX3_placeOf_71 : decode cX3_placeOf 71 = .ok (.istore 8, 2) := by decide +kernel
theorem dX3_placeOf_73 : decode cX3_placeOf 73 = .ok (.iload 8, 2) := by decide +kernel
theorem dX3_placeOf_75 : decode cX3_placeOf 75 = .ok (.ifCond .eq 23, 3) := by decide +kernel
theorem dX3_placeOf_78 : decode cX3_placeOf 78 = .ok (.aload_n 0, 1) := by decide +kernel
theorem dX3_placeOf_79 : decode cX3_placeOf 79 = .ok (.getfield 25, 3) := by decide +kernel
theorem dX3_placeOf_82 : decode cX3_placeOf 82 = .ok (.iload 6, 2) := by decide +kernel
theorem dX3_placeOf_84 : decode cX3_placeOf 84 = .ok (.iload 7, 2) := by decide +kernel
theorem dX3_placeOf_86 : decode cX3_placeOf 86 = .ok (.invokestatic 39, 3) := by decide +kernel
theorem dX3_placeOf_89 : decode cX3_placeOf 89 = .ok (.iaload, 1) := by decide +kernel
theorem dX3_placeOf_90 : decode cX3_placeOf 90 = .ok (.iload 4, 2) := by decide +kernel
theorem dX3_placeOf_92 : decode cX3_placeOf 92 = .ok (.if_icmp .ge 6, 3) := by decide +kernel
theorem dX3_placeOf_95 : decode cX3_placeOf 95 = .ok (.iinc 5 1, 3) := by decide +kernel
theorem dX3_placeOf_98 : decode cX3_placeOf 98 = .ok (.iinc 7 1, 3) := by decide +kernel
theorem dX3_placeOf_101 : decode cX3_placeOf 101 = .ok (.goto (-68), 3) := by decide +kernel
theorem dX3_placeOf_104 : decode cX3_placeOf 104 = .ok (.iinc 6 1, 3) := by decide +kernel
theorem dX3_placeOf_107 : decode cX3_placeOf 107 = .ok (.goto (-89), 3) := by decide +kernel
theorem dX3_placeOf_110 : decode cX3_placeOf 110 = .ok (.iload 5, 2) := by decide +kernel
theorem dX3_placeOf_112 : decode cX3_placeOf 112 = .ok (.ireturn, 1) := by decide +kernel
set_option maxRecDepth 20000 in
theorem ggX3_placeForParty_X3_allInWayOfParty : GoodIn wsX3_placeForParty wsX3_allInWayOfParty := goodIn_r _ [8, 9, 10, 11, 7, 12, 13, 14, 15, 16, 17, 27, 28, 29, 30, 31] (by decide +kernel) (by decide +kernel)
set_option maxRecDepth 20000 in
theorem gX3_placeForParty_X3_allInWayOfParty : GoodIn wsX3_placeForParty (wsV RX3 78 RX3 yX3_allInWayOfParty wsX3_allInWayOfParty) := goodIn_app (goodIn_of _ (by decide +kernel)) ggX3_placeForParty_X3_allInWayOfParty
set_option maxRecDepth 20000 in
theorem ggX3_placeForParty_X0_areFree : GoodIn wsX3_placeForParty wsX0_areFree := goodIn_r _ [22, 23, 24, 25, 21, 26, 32, 33, 34, 35, 36, 37, 38, 39, 40, 41] (by decide +kernel) (by decide +kernel)
set_option maxRecDepth 20000 in
theorem gX3_placeForParty_X0_areFree : GoodIn wsX3_placeForParty (wsV RX3 82 RX0 yX0_areFree wsX0_areFree) := goodIn_app (goodIn_of _ (by decide +kernel)) ggX3_placeForParty_X0_areFree
theorem dX3_placeForParty_0 : decode cX3_placeForParty 0 = .ok (.iconst (-1), 1) := by decide +kernel
theorem dX3_placeForParty_1 : decode cX3_placeForParty 1 = .ok (.istore_n 2, 1) := by decide +kernel
theorem dX3_placeForParty_2 : decode cX3_placeForParty 2 = .ok (.iconst 0, 1) := by decide +kernel
theorem dX3_placeForParty_3 : decode cX3_placeForParty 3 = .ok (.istore_n 3, 1) := by decide +kernel
theorem dX3_placeForParty_4 : decode cX3_placeForParty 4 = .ok (.iconst 0, 1) := by decide +kernel
theorem dX3_placeForParty_5 : decode cX3_placeForParty 5 = .ok (.istore 4, 2) := by decide +kernel
theorem dX3_placeForParty_7 : decode cX3_placeForParty 7 = .ok (.iload 4, 2) := by decide +kernel
theorem dX3_placeForParty_9 : decode cX3_placeForParty 9 = .ok (.aload_n 0, 1) := by decide +kernel
theorem dX3_placeForParty_10 : decode cX3_placeForParty 10 = .ok (.getfield 12, 3) := by decide +kernel
theorem dX3_placeForParty_13 : decode cX3_placeForParty 13 = .ok (.getfield 32, 3) := by decide +kernel
theorem dX3_placeForParty_16 : decode cX3_placeForParty 16 = .ok (.if_icmp .ge 84, 3) := by decide +kernel
theorem dX3_placeForParty_19 : decode cX3_placeForParty 19 = .ok (.iconst 0, 1) := by decide +kernel
theorem dX3_placeForParty_20 : decode cX3_placeForParty 20 = .ok (.istore 5, 2) := by decide +kernel
theorem dX3_placeForParty_22 : decode cX3_placeForParty 22 = .ok (.iload 5, 2) := by decide +kernel
theorem dX3_placeForParty_24 : decode cX3_placeForParty 24 = .ok (.iload_n 1, 1) := by decide +kernel
theorem dX3_placeForParty_25 : decode cX3_placeForParty 25 = .ok (.iadd, 1) := by decide +kernel
theorem dX3_placeForParty_26 : decode cX3_placeForParty 26 = .ok (.aload_n 0, 1) := by decide +kernel
theorem dX3_placeForParty_27 : decode cX3_placeForParty 27 = .ok (.getfield 12, 3) := by decide +kernel
theorem dX3_placeForParty_30 : decode cX3_placeForParty 30 = .ok (.getfield 36, 3) := by decide +kernel
theorem dX3_placeForParty_33 : decode cX3_placeForParty 33 = .ok (.iload 4, 2) := by decide +kernel
theorem dX3_placeForParty_35 : decode cX3_placeForParty 35 = .ok (.iaload, 1) := by decide +kernel
theorem dX3_placeForParty_36 : decode cX3_placeForParty 36 = .ok (.if_icmp .gt 58, 3) := by decide +kernel
theorem dX3_placeForParty_39 : decode cX3_placeForParty 39 = .ok (.aload_n 0, 1) := by decide +kernel
theorem dX3_placeForParty_40 : decode cX3_placeForParty 40 = .ok (.iload 4, 2) := by decide +kernel
theorem dX3_placeForParty_42 : decode cX3_placeForParty 42 = .ok (.iload 5, 2) := by decide +kernel
theorem dX3_placeForParty_44 : decode cX3_placeForParty 44 = .ok (.iload_n 1, 1) := by decide +kernel
theorem dX3_placeForParty_45 : decode cX3_placeForParty 45 = .ok (.invokevirtual 78, 3) := by decide +kernel
theorem dX3_placeForParty_48 : decode cX3_placeForParty 48 = .ok (.istore 6, 2) := by decide +kernel
theorem dX3_placeForParty_50 : decode cX3_placeForParty 50 = .ok (.aload_n 0, 1) := by decide +kernel
theorem dX3_placeForParty_51 : decode cX3_placeForParty 51 = .ok (.getfield 12, 3) := by decide +kernel
theorem dX3_placeForParty_54 : decode cX3_placeForParty 54 = .ok (.iload 4, 2) := by decide +kernel
theorem dX3_placeForParty_56 : decode cX3_placeForParty 56 = .ok (.iload 5, 2) := by decide +kernel
theorem dX3_placeForParty_58 : decode cX3_placeForParty 58 = .ok (.iload_n 1, 1) := by decide +kernel
theorem dX3_placeForParty_59 : decode cX3_placeForParty 59 = .ok (.invokevirtual 82, 3) := by decide +kernel
theorem dX3_placeForParty_62 : decode cX3_placeForParty 62 = .ok (.ifCond .eq 26, 3) := by decide +kernel
theorem dX3_placeForParty_65 : decode cX3_placeForParty 65 = .ok (.iload_n 2, 1) := by decide +kernel
theorem dX3_placeForParty_66 : decode cX3_placeForParty 66 = .ok (.iconst (-1), 1) := by decide +kernel
theorem dX3_placeForParty_67 : decode cX3_placeForParty 67 = .ok (.if_icmp .eq 9, 3) := by decide +kernel
theorem dX3_placeForParty_70 : decode cX3_placeForParty 70 = .ok (.iload 6, 2) := by decide +kernel
theorem dX3_placeForParty_72 : decode cX3_placeForParty 72 = .ok (.iload_n 3, 1) := by decide +kernel
theorem dX3_placeForParty_73 : decode cX3_placeForParty 73 = .ok (.if_icmp .ge 15, 3) := by decide +kernel
theorem dX3_placeForParty_76 : decode cX3_placeForParty 76 = .ok (.bipush 100, 2) := by decide +kernel
theorem dX3_placeForParty_78 : decode cX3_placeForParty 78 = .ok (.iload 4, 2) := by decide +kernel
theorem dX3_placeForParty_80 : decode cX3_placeForParty 80 = .ok (.imul, 1) := by decide +kernel
theorem dX3_placeForParty_81 : decode cX3_placeForParty 81 = .ok (.iload 5, 2) := by decide +kernel
theorem dX3_placeForParty_83 : decode cX3_placeForParty 83 = .ok (.iadd, 1) := by decide +kernel
theorem dX3_placeForParty_84 : decode cX3_placeForParty 84 = .ok (.istore_n 2, 1) := by decide +kernel
theorem dX3_placeForParty_85 : decode cX3_placeForParty 85 = .ok (.iload 6, 2) := by decide +kernel
theorem dX3_placeForParty_87 : decode cX3_placeForParty 87 = .ok (.istore_n 3, 1) := by decide +kernel
theorem dX3_placeForParty_88 : decode cX3_placeForParty 88 = .ok (.iinc 5 1, 3) := by decide +kernel
theorem dX3_placeForParty_91 : decode cX3_placeForParty 91 = .ok (.goto (-69), 3) := by decide +kernel
theorem dX3_placeForParty_94 : decode cX3_placeForParty 94 = .ok (.iinc 4 1, 3) := by decide +kernel
theorem dX3_placeForParty_97 : decode cX3_placeForParty 97 = .ok (.goto (-90), 3) := by decide +kernel
theorem dX3_placeForParty_100 : decode cX3_placeForParty 100 = .ok (.iload_n 2, 1) := by decide +kernel
theorem dX3_placeForParty_101 : decode cX3_placeForParty 101 = .ok (.ireturn, 1) := by decide +kernel
set_option maxRecDepth 20000 in
theorem ggX3_allInWayOfParty_X3_allInWay : GoodIn wsX3_allInWayOfParty wsX3_allInWay := goodIn_r _ [5, 6, 7, 8, 9, 4, 10, 11, 12, 13, 14, 15] (by decide +kernel) (by decide +kernel)
set_option maxRecDepth 20000 in
theorem gX3_allInWayOfParty_X3_allInWay : GoodIn wsX3_allInWayOfParty (wsV RX3 52 RX3 yX3_allInWay wsX3_allInWay) := goodIn_app (goodIn_of _ (by decide +kernel)) ggX3_allInWayOfParty_X3_allInWay
theorem dX3_allInWayOfParty_0 : decode cX3_allInWayOfParty 0 = .ok (.iconst 0, 1) := by decide +kernel
theorem dX3_allInWayOfParty_1 : decode cX3_allInWayOfParty 1 = .ok (.istore 4, 2) := by decide +kernel
theorem dX3_allInWayOfParty_3 : decode cX3_allInWayOfParty 3 = .ok (.iload_n 2, 1) := by decide +kernel
theorem dX3_allInWayOfParty_4 : decode cX3_allInWayOfParty 4 = .ok (.istore 5, 2) := by decide +kernel
theorem dX3_allInWayOfParty_6 : decode cX3_allInWayOfParty 6 = .ok (.iload 5, 2) := by decide +kernel
theorem dX3_allInWayOfParty_8 : decode cX3_allInWayOfParty 8 = .ok (.iload_n 2, 1) := by decide +kernel
theorem dX3_allInWayOfParty_9 : decode cX3_allInWayOfParty 9 = .ok (.iload_n 3, 1) := by decide +kernel
theorem dX3_allInWayOfParty_10 : decode cX3_allInWayOfParty 10 = .ok (.iadd, 1) := by decide +kernel
theorem dX3_allInWayOfParty_11 : decode cX3_allInWayOfParty 11 = .ok (.if_icmp .ge 21, 3) := by decide +kernel
theorem dX3_allInWayOfParty_14 : decode cX3_allInWayOfParty 14 = .ok (.iload 4, 2) := by decide +kernel
theorem dX3_allInWayOfParty_16 : decode cX3_allInWayOfParty 16 = .ok (.aload_n 0, 1) := by decide +kernel
theorem dX3_allInWayOfParty_17 : decode cX3_allInWayOfParty 17 = .ok (.iload_n 1, 1) := by decide +kernel
theorem dX3_allInWayOfParty_18 : decode cX3_allInWayOfParty 18 = .ok (.iload 5, 2) := by decide +kernel
theorem dX3_allInWayOfParty_20 : decode cX3_allInWayOfParty 20 = .ok (.invokevirtual 52, 3) := by decide +kernel
theorem dX3_allInWayOfParty_23 : decode cX3_allInWayOfParty 23 = .ok (.iadd, 1) := by decide +kernel
theorem dX3_allInWayOfParty_24 : decode cX3_allInWayOfParty 24 = .ok (.istore 4, 2) := by decide +kernel
theorem dX3_allInWayOfParty_26 : decode cX3_allInWayOfParty 26 = .ok (.iinc 5 1, 3) := by decide +kernel
theorem dX3_allInWayOfParty_29 : decode cX3_allInWayOfParty 29 = .ok (.goto (-23), 3) := by decide +kernel
theorem dX3_allInWayOfParty_32 : decode cX3_allInWayOfParty 32 = .ok (.iload 4, 2) := by decide +kernel
theorem dX3_allInWayOfParty_34 : decode cX3_allInWayOfParty 34 = .ok (.ireturn, 1) := by decide +kernel
