theorem dX0_init_0 : decode cX0_init 0 = .ok (.aload_n 0, 1) := by decide +kernel
theorem dX0_init_1 : decode cX0_init 1 = .ok (.invokespecial 3, 3) := by decide +kernel
theorem dX0_init_4 : decode cX0_init 4 = .ok (.aload_n 0, 1) := by decide +kernel
theorem dX0_init_5 : decode cX0_init 5 = .ok (.bipush 10, 2) := by decide +kernel
theorem dX0_init_7 : decode cX0_init 7 = .ok (.newarray .int, 2) := by decide +kernel
theorem dX0_init_9 : decode cX0_init 9 = .ok (.putfield 9, 3) := by decide +kernel
theorem dX0_init_12 : decode cX0_init 12 = .ok (.aload_n 0, 1) := by decide +kernel
theorem dX0_init_13 : decode cX0_init 13 = .ok (.bipush 10, 2) := by decide +kernel
theorem dX0_init_15 : decode cX0_init 15 = .ok (.newarray .int, 2) := by decide +kernel
theorem dX0_init_17 : decode cX0_init 17 = .ok (.putfield 15, 3) := by decide +kernel
theorem dX0_init_20 : decode cX0_init 20 = .ok (.aload_n 0, 1) := by decide +kernel
theorem dX0_init_21 : decode cX0_init 21 = .ok (.bipush 10, 2) := by decide +kernel
theorem dX0_init_23 : decode cX0_init 23 = .ok (.newarray .int, 2) := by decide +kernel
theorem dX0_init_25 : decode cX0_init 25 = .ok (.putfield 18, 3) := by decide +kernel
theorem dX0_init_28 : decode cX0_init 28 = .ok (.aload_n 0, 1) := by decide +kernel
theorem dX0_init_29 : decode cX0_init 29 = .ok (.bipush 10, 2) := by decide +kernel
theorem dX0_init_31 : decode cX0_init 31 = .ok (.newarray .int, 2) := by decide +kernel
theorem dX0_init_33 : decode cX0_init 33 = .ok (.putfield 21, 3) := by decide +kernel
theorem dX0_init_36 : decode cX0_init 36 = .ok (.aload_n 0, 1) := by decide +kernel
theorem dX0_init_37 : decode cX0_init 37 = .ok (.iconst 4, 1) := by decide +kernel
theorem dX0_init_38 : decode cX0_init 38 = .ok (.newarray .int, 2) := by decide +kernel
theorem dX0_init_40 : decode cX0_init 40 = .ok (.putfield 24, 3) := by decide +kernel
theorem dX0_init_43 : decode cX0_init 43 = .ok (.aload_n 0, 1) := by decide +kernel
theorem dX0_init_44 : decode cX0_init 44 = .ok (.iconst 4, 1) := by decide +kernel
theorem dX0_init_45 : decode cX0_init 45 = .ok (.newarray .int, 2) := by decide +kernel
theorem dX0_init_47 : decode cX0_init 47 = .ok (.putfield 27, 3) := by decide +kernel
theorem dX0_init_50 : decode cX0_init 50 = .ok (.aload_n 0, 1) := by decide +kernel
theorem dX0_init_51 : decode cX0_init 51 = .ok (.iconst 4, 1) := by decide +kernel
theorem dX0_init_52 : decode cX0_init 52 = .ok (.newarray .int, 2) := by decide +kernel
theorem dX0_init_54 : decode cX0_init 54 = .ok (.putfield 30, 3) := by decide +kernel
theorem dX0_init_57 : decode cX0_init 57 = .ok (.aload_n 0, 1) := by decide +kernel
theorem dX0_init_58 : decode cX0_init 58 = .ok (.iconst 3, 1) := by decide +kernel
theorem dX0_init_59 : decode cX0_init 59 = .ok (.newarray .int, 2) := by decide +kernel
theorem dX0_init_61 : decode cX0_init 61 = .ok (.dup, 1) := by decide +kernel
theorem dX0_init_62 : decode cX0_init 62 = .ok (.iconst 0, 1) := by decide +kernel
theorem dX0_init_63 : decode cX0_init 63 = .ok (.bipush 100, 2) := by decide +kernel
theorem dX0_init_65 : decode cX0_init 65 = .ok (.iastore, 1) := by decide +kernel
theorem dX0_init_66 : decode cX0_init 66 = .ok (.dup, 1) := by decide +kernel
theorem dX0_init_67 : decode cX0_init 67 = .ok (.iconst 1, 1) := by decide +kernel
theorem dX0_init_68 : decode cX0_init 68 = .ok (.bipush 120, 2) := by decide +kernel
theorem dX0_init_70 : decode cX0_init 70 = .ok (.iastore, 1) := by decide +kernel
theorem dX0_init_71 : decode cX0_init 71 = .ok (.dup, 1) := by decide +kernel
theorem dX0_init_72 : decode cX0_init 72 = .ok (.iconst 2, 1) := by decide +kernel
theorem dX0_init_73 : decode cX0_init 73 = .ok (.bipush 12, 2) := by decide +kernel
theorem dX0_init_75 : decode cX0_init 75 = .ok (.iastore, 1) := by decide +kernel
theorem dX0_init_76 : decode cX0_init 76 = .ok (.putfield 33, 3) := by decide +kernel
theorem dX0_init_79 : decode cX0_init 79 = .ok (.return_, 1) := by decide +kernel
theorem dX0_copyFrom_0 : decode cX0_copyFrom 0 = .ok (.aload_n 0, 1) := by decide +kernel
theorem dX0_copyFrom_1 : decode cX0_copyFrom 1 = .ok (.aload_n 1, 1) := by decide +kernel
theorem dX0_copyFrom_2 : decode cX0_copyFrom 2 = .ok (.getfield 36, 3) := by decide +kernel
theorem dX0_copyFrom_5 : decode cX0_copyFrom 5 = .ok (.putfield 36, 3) := by decide +kernel
theorem dX0_copyFrom_8 : decode cX0_copyFrom 8 = .ok (.aload_n 1, 1) := by decide +kernel
theorem dX0_copyFrom_9 : decode cX0_copyFrom 9 = .ok (.getfield 9, 3) := by decide +kernel
theorem dX0_copyFrom_12 : decode cX0_copyFrom 12 = .ok (.iconst 0, 1) := by decide +kernel
theorem dX0_copyFrom_13 : decode cX0_copyFrom 13 = .ok (.aload_n 0, 1) := by decide +kernel
theorem dX0_copyFrom_14 : decode cX0_copyFrom 14 = .ok (.getfield 9, 3) := by decide +kernel
theorem dX0_copyFrom_17 : decode cX0_copyFrom 17 = .ok (.iconst 0, 1) := by decide +kernel
theorem dX0_copyFrom_18 : decode cX0_copyFrom 18 = .ok (.bipush 10, 2) := by decide +kernel
theorem dX0_copyFrom_20 : decode cX0_copyFrom 20 = .ok (.invokestatic 40, 3) := by decide +kernel
theorem dX0_copyFrom_23 : decode cX0_copyFrom 23 = .ok (.aload_n 1, 1) := by decide +kernel
theorem dX0_copyFrom_24 : decode cX0_copyFrom 24 = .ok (.getfield 15, 3) := by decide +kernel
theorem dX0_copyFrom_27 : decode cX0_copyFrom 27 = .ok (.iconst 0, 1) := by decide +kernel
theorem dX0_copyFrom_28 : decode cX0_copyFrom 28 = .ok (.aload_n 0, 1) := by decide +kernel
theorem dX0_copyFrom_29 : decode cX0_copyFrom 29 = .ok (.getfield 15, 3) := by decide +kernel
theorem dX0_copyFrom_32 : decode cX0_copyFrom 32 = .ok (.iconst 0, 1) := by decide +kernel
theorem dX0_copyFrom_33 : decode cX0_copyFrom 33 = .ok (.bipush 10, 2) := by decide +kernel
theorem dX0_copyFrom_35 : decode cX0_copyFrom 35 = .ok (.invokestatic 40, 3) := by decide +kernel
theorem dX0_copyFrom_38 : decode cX0_copyFrom 38 = .ok (.aload_n 1, 1) := by decide +kernel
theorem dX0_copyFrom_39 : decode cX0_copyFrom 39 = .ok (.getfield 18, 3) := by decide +kernel
theorem dX0_copyFrom_42 : decode cX0_copyFrom 42 = .ok (.iconst 0, 1) := by decide +kernel
theorem dX0_copyFrom_43 : decode cX0_copyFrom 43 = .ok (.aload_n 0, 1) := by decide +kernel
theorem dX0_copyFrom_44 : decode cX0_copyFrom 44 = .ok (.getfield 18, 3) := by decide +kernel
theorem dX0_copyFrom_47 : decode cX0_copyFrom 47 = .ok (.iconst 0, 1) := by decide +kernel
theorem dX0_copyFrom_48 : decode cX0_copyFrom 48 = .ok (.bipush 10, 2) := by decide +kernel
theorem dX0_copyFrom_50 : decode cX0_copyFrom 50 = .ok (.invokestatic 40, 3) := by decide +kernel
theorem dX0_copyFrom_53 : decode cX0_copyFrom 53 = .ok (.aload_n 1, 1) := by decide +kernel
theorem dX0_copyFrom_54 : decode cX0_copyFrom 54 = .ok (.getfield 21, 3) := by decide +kernel
theorem dX0_copyFrom_57 : decode cX0_copyFrom 57 = .ok (.iconst 0, 1) := by decide +kernel
theorem dX0_copyFrom_58 : decode cX0_copyFrom 58 = .ok (.aload_n 0, 1) := by decide +kernel
theorem dX0_copyFrom_59 : decode cX0_copyFrom 59 = .ok (.getfield 21, 3) := by decide +kernel
theorem dX0_copyFrom_62 : decode cX0_copyFrom 62 = .ok (.iconst 0, 1) := by decide +kernel
theorem dX0_copyFrom_63 : decode cX0_copyFrom 63 = .ok (.bipush 10, 2) := by decide +kernel
theorem dX0_copyFrom_65 : decode cX0_copyFrom 65 = .ok (.invokestatic 40, 3) := by decide +kernel
theorem dX0_copyFrom_68 : decode cX0_copyFrom 68 = .ok (.aload_n 0, 1) := by decide +kernel
theorem dX0_copyFrom_69 : decode cX0_copyFrom 69 = .ok (.aload_n 1, 1) := by decide +kernel
theorem dX0_copyFrom_70 : decode cX0_copyFrom 70 = .ok (.getfield 46, 3) := by decide +kernel
theorem dX0_copyFrom_73 : decode cX0_copyFrom 73 = .ok (.putfield 46, 3) := by decide +kernel
theorem dX0_copyFrom_76 : decode cX0_copyFrom 76 = .ok (.aload_n 1, 1) := by decide +kernel
theorem dX0_copyFrom_77 : decode cX0_copyFrom 77 = .ok (.getfield 24, 3) := by decide +kernel
theorem dX0_copyFrom_80 : decode cX0_copyFrom 80 = .ok (.iconst 0, 1) := by decide +kernel
theorem dX0_copyFrom_81 : decode cX0_copyFrom 81 = .ok (.aload_n 0, 1) := by decide +kernel
theorem dX0_copyFrom_82 : decode cX0_copyFrom 82 = .ok (.getfield 24, 3) := by decide +kernel
theorem dX0_copyFrom_85 : decode cX0_copyFrom 85 = .ok (.iconst 0, 1) := by decide +kernel
theorem dX0_copyFrom_86 : decode cX0_copyFrom 86 = .ok (.iconst 4, 1) := by decide +kernel
theorem dX0_copyFrom_87 : decode cX0_copyFrom 87 = .ok (.invokestatic 40, 3) := by decide +kernel
theorem dX0_copyFrom_90 : decode cX0_copyFrom 90 = .ok (.aload_n 1, 1) := by decide +kernel
theorem dX0_copyFrom_91 : decode cX0_copyFrom 91 = .ok (.getfield 27, 3) := by decide +kernel
theorem dX0_copyFrom_94 : decode cX0_copyFrom 94 = .ok (.iconst 0, 1) := by decide +kernel
theorem dX0_copyFrom_95 : decode cX0_copyFrom 95 = .ok (.aload_n 0, 1) := by decide +kernel
theorem dX0_copyFrom_96 : decode cX0_copyFrom 96 = .ok (.getfield 27, 3) := by decide +kernel
theorem dX0_copyFrom_99 : decode cX0_copyFrom 99 = .ok (.iconst 0, 1) := by decide +kernel
theorem dX0_copyFrom_100 : decode cX0_copyFrom 100 = .ok (.iconst 4, 1) := by decide +kernel
theorem dX0_copyFrom_101 : decode cX0_copyFrom 101 = .ok (.invokestatic 40, 3) := by decide +kernel
theorem dX0_copyFrom_104 : decode cX0_copyFrom 104 = .ok (.aload_n 1, 1) := by decide +kernel
theorem dX0_copyFrom_105 : decode cX0_copyFrom 105 = .ok (.getfield 30, 3) := by decide +kernel
theorem dX0_copyFrom_108 : decode cX0_copyFrom 108 = .ok (.iconst 0, 1) := by decide +kernel
theorem dX0_copyFrom_109 : decode cX0_copyFrom 109 = .ok (.aload_n 0, 1) := by decide +kernel
theorem dX0_copyFrom_110 : decode cX0_copyFrom 110 = .ok (.getfield 30, 3) := by decide +kernel
theorem dX0_copyFrom_113 : decode cX0_copyFrom 113 = .ok (.iconst 0, 1) := by decide +kernel
theorem dX0_copyFrom_114 : decode cX0_copyFrom 114 = .ok (.iconst 4, 1) := by decide +kernel
theorem dX0_copyFrom_115 : decode cX0_copyFrom 115 = .ok (.invokestatic 40, 3) := by decide +kernel
theorem dX0_copyFrom_118 : decode cX0_copyFrom 118 = .ok (.aload_n 1, 1) := by decide +kernel
theorem dX0_copyFrom_119 : decode cX0_copyFrom 119 = .ok (.getfield 33, 3) := by decide +kernel
theorem dX0_copyFrom_122 : decode cX0_copyFrom 122 = .ok (.iconst 0, 1) := by decide +kernel
theorem dX0_copyFrom_123 : decode cX0_copyFrom 123 = .ok (.aload_n 0, 1) := by decide +kernel
theorem dX0_copyFrom_124 : decode cX0_copyFrom 124 = .ok (.getfield 33, 3) := by decide +kernel
theorem dX0_copyFrom_127 : decode cX0_copyFrom 127 = .ok (.iconst 0, 1) := by decide +kernel
theorem dX0_copyFrom_128 : decode cX0_copyFrom 128 = .ok (.iconst 3, 1) := by decide +kernel
theorem dX0_copyFrom_129 : decode cX0_copyFrom 129 = .ok (.invokestatic 40, 3) := by decide +kernel
theorem dX0_copyFrom_132 : decode cX0_copyFrom 132 = .ok (.return_, 1) := by decide +kernel
theorem dX0_hasRoomForRow_0 : decode cX0_hasRoomForRow 0 = .ok (.iconst 0, 1) := by decide +kernel
theorem dX0_hasRoomForRow_1 : decode cX0_hasRoomForRow 1 = .ok (.istore_n 2, 1) := by decide +kernel
theorem dX0_hasRoomForRow_2 : decode cX0_hasRoomForRow 2 = .ok (.iload_n 2, 1) := by decide +kernel
theorem dX0_hasRoomForRow_3 : decode cX0_hasRoomForRow 3 = .ok (.aload_n 0, 1) := by decide +kernel
theorem dX0_hasRoomForRow_4 : decode cX0_hasRoomForRow 4 = .ok (.getfield 36, 3) := by decide +kernel
theorem dX0_hasRoomForRow_7 : decode cX0_hasRoomForRow 7 = .ok (.if_icmp .ge 21, 3) := by decide +kernel
theorem dX0_hasRoomForRow_10 : decode cX0_hasRoomForRow 10 = .ok (.aload_n 0, 1) := by decide +kernel
theorem dX0_hasRoomForRow_11 : decode cX0_hasRoomForRow 11 = .ok (.getfield 9, 3) := by decide +kernel
theorem dX0_hasRoomForRow_14 : decode cX0_hasRoomForRow 14 = .ok (.iload_n 2, 1) := by decide +kernel
theorem dX0_hasRoomForRow_15 : decode cX0_hasRoomForRow 15 = .ok (.iaload, 1) := by decide +kernel
theorem dX0_hasRoomForRow_16 : decode cX0_hasRoomForRow 16 = .ok (.iload_n 1, 1) := by decide +kernel
theorem dX0_hasRoomForRow_17 : decode cX0_hasRoomForRow 17 = .ok (.if_icmp .ne 5, 3) := by decide +kernel
theorem dX0_hasRoomForRow_20 : decode cX0_hasRoomForRow 20 = .ok (.iconst 0, 1) := by decide +kernel
theorem dX0_hasRoomForRow_21 : decode cX0_hasRoomForRow 21 = .ok (.ireturn, 1) := by decide +kernel
theorem dX0_hasRoomForRow_22 : decode cX0_hasRoomForRow 22 = .ok (.iinc 2 1, 3) := by decide +kernel
theorem dX0_hasRoomForRow_25 : decode cX0_hasRoomForRow 25 = .ok (.goto (-23), 3) := by decide +kernel
theorem dX0_hasRoomForRow_28 : decode cX0_hasRoomForRow 28 = .ok (.aload_n 0, 1) := by decide +kernel
theorem dX0_hasRoomForRow_29 : decode cX0_hasRoomForRow 29 = .ok (.getfield 36, 3) := by decide +kernel
theorem dX0_hasRoomForRow_32 : decode cX0_hasRoomForRow 32 = .ok (.bipush 10, 2) := by decide +kernel
theorem dX0_hasRoomForRow_34 : decode cX0_hasRoomForRow 34 = .ok (.if_icmp .ge 7, 3) := by decide +kernel
theorem dX0_hasRoomForRow_37 : decode cX0_hasRoomForRow 37 = .ok (.iconst 1, 1) := by decide +kernel
theorem dX0_hasRoomForRow_38 : decode cX0_hasRoomForRow 38 = .ok (.goto 4, 3) := by decide +kernel
theorem dX0_hasRoomForRow_41 : decode cX0_hasRoomForRow 41 = .ok (.iconst 0, 1) := by decide +kernel
theorem dX0_hasRoomForRow_42 : decode cX0_hasRoomForRow 42 = .ok (.ireturn, 1) := by decide +kernel
set_option maxRecDepth 20000 in
theorem ggX0_insertRow_X0_moveRow : GoodIn wsX0_insertRow wsX0_moveRow := goodIn_r _ [10, 2, 3, 4, 5, 11, 12, 13, 14, 15, 16, 17, 18, 19, 20] (by decide +kernel) (by decide +kernel)
set_option maxRecDepth 20000 in
theorem gX0_insertRow_X0_moveRow : GoodIn wsX0_insertRow (wsV RX0 49 RX0 yX0_moveRow wsX0_moveRow) := goodIn_app (goodIn_of _ (by decide +kernel)) ggX0_insertRow_X0_moveRow
theorem dX0_insertRow_0 : decode cX0_insertRow 0 = .ok (.aload_n 0, 1) := by decide +kernel
theorem dX0_insertRow_1 : decode cX0_insertRow 1 = .ok (.getfield 36, 3) := by decide +kernel
theorem dX0_insertRow_4 : decode cX0_insertRow 4 = .ok (.istore 4, 2) := by decide +kernel
theorem dX0_insertRow_6 : decode cX0_insertRow 6 = .ok (.iload 4, 2) := by decide +kernel
theorem dX0_insertRow_8 : decode cX0_insertRow 8 = .ok (.ifCond .le 32, 3) := by decide +kernel
theorem dX0_insertRow_11 : decode cX0_insertRow 11 = .ok (.aload_n 0, 1) := by decide +kernel
theorem dX0_insertRow_12 : decode cX0_insertRow 12 = .ok (.getfield 9, 3) := by decide +kernel
theorem dX0_insertRow_15 : decode cX0_insertRow 15 = .ok (.iload 4, 2) := by decide +kernel
theorem dX0_insertRow_17 : decode cX0_insertRow 17 = .ok (.iconst 1, 1) := by decide +kernel
theorem dX0_insertRow_18 : decode cX0_insertRow 18 = .ok (.isub, 1) := by decide +kernel
theorem dX0_insertRow_19 : decode cX0_insertRow 19 = .ok (.iaload, 1) := by decide +kernel
theorem dX0_insertRow_20 : decode cX0_insertRow 20 = .ok (.iload_n 1, 1) := by decide +kernel
theorem dX0_insertRow_21 : decode cX0_insertRow 21 = .ok (.if_icmp .le 19, 3) := by decide +kernel
theorem dX0_insertRow_24 : decode cX0_insertRow 24 = .ok (.aload_n 0, 1) := by decide +kernel
theorem dX0_insertRow_25 : decode cX0_insertRow 25 = .ok (.iload 4, 2) := by decide +kernel
theorem dX0_insertRow_27 : decode cX0_insertRow 27 = .ok (.iconst 1, 1) := by decide +kernel
theorem dX0_insertRow_28 : decode cX0_insertRow 28 = .ok (.isub, 1) := by decide +kernel
theorem dX0_insertRow_29 : decode cX0_insertRow 29 = .ok (.iload 4, 2) := by decide +kernel
theorem dX0_insertRow_31 : decode cX0_insertRow 31 = .ok (.invokevirtual 49, 3) := by decide +kernel
theorem dX0_insertRow_34 : decode cX0_insertRow 34 = .ok (.iinc 4 (-1), 3) := by decide +kernel
theorem dX0_insertRow_37 : decode cX0_insertRow 37 = .ok (.goto (-31), 3) := by decide +kernel
theorem dX0_insertRow_40 : decode cX0_insertRow 40 = .ok (.aload_n 0, 1) := by decide +kernel
theorem dX0_insertRow_41 : decode cX0_insertRow 41 = .ok (.getfield 9, 3) := by decide +kernel
theorem dX0_insertRow_44 : decode cX0_insertRow 44 = .ok (.iload 4, 2) := by decide +kernel
theorem dX0_insertRow_46 : decode cX0_insertRow 46 = .ok (.iload_n 1, 1) := by decide +kernel
theorem dX0_insertRow_47 : decode cX0_insertRow 47 = .ok (.iastore, 1) := by decide +kernel
theorem dX0_insertRow_48 : decode cX0_insertRow 48 = .ok (.aload_n 0, 1) := by decide +kernel
theorem dX0_insertRow_49 : decode cX0_insertRow 49 = .ok (.getfield 15, 3) := by decide +kernel
theorem dX0_insertRow_52 : decode cX0_insertRow 52 = .ok (.iload 4, 2) := by decide +kernel
theorem dX0_insertRow_54 : decode cX0_insertRow 54 = .ok (.iload_n 2, 1) := by decide +kernel
theorem dX0_insertRow_55 : decode cX0_insertRow 55 = .ok (.iastore, 1) := by decide +kernel
theorem dX0_insertRow_56 : decode cX0_insertRow 56 = .ok (.aload_n 0, 1) := by decide +kernel
theorem dX0_insertRow_57 : decode cX0_insertRow 57 = .ok (.getfield 18, 3) := by decide +kernel
theorem dX0_insertRow_60 : decode cX0_insertRow 60 = .ok (.iload 4, 2) := by decide +kernel
theorem dX0_insertRow_62 : decode cX0_insertRow 62 = .ok (.iload_n 3, 1) := by decide +kernel
theorem dX0_insertRow_63 : decode cX0_insertRow 63 = .ok (.iastore, 1) := by decide +kernel
theorem dX0_insertRow_64 : decode cX0_insertRow 64 = .ok (.aload_n 0, 1) := by decide +kernel
theorem dX0_insertRow_65 : decode cX0_insertRow 65 = .ok (.getfield 21, 3) := by decide +kernel
theorem dX0_insertRow_68 : decode cX0_insertRow 68 = .ok (.iload 4, 2) := by decide +kernel
theorem dX0_insertRow_70 : decode cX0_insertRow 70 = .ok (.iconst 0, 1) := by decide +kernel
theorem dX0_insertRow_71 : decode cX0_insertRow 71 = .ok (.iastore, 1) := by decide +kernel
theorem dX0_insertRow_72 : decode cX0_insertRow 72 = .ok (.aload_n 0, 1) := by decide +kernel
theorem dX0_insertRow_73 : decode cX0_insertRow 73 = .ok (.dup, 1) := by decide +kernel
theorem dX0_insertRow_74 : decode cX0_insertRow 74 = .ok (.getfield 36, 3) := by decide +kernel
theorem dX0_insertRow_77 : decode cX0_insertRow 77 = .ok (.iconst 1, 1) := by decide +kernel
theorem dX0_insertRow_78 : decode cX0_insertRow 78 = .ok (.iadd, 1) := by decide +kernel
theorem dX0_insertRow_79 : decode cX0_insertRow 79 = .ok (.putfield 36, 3) := by decide +kernel
theorem dX0_insertRow_82 : decode cX0_insertRow 82 = .ok (.iload 4, 2) := by decide +kernel
theorem dX0_insertRow_84 : decode cX0_insertRow 84 = .ok (.ireturn, 1) := by decide +kernel
set_option maxRecDepth 20000 in
theorem ggX0_deleteRow_X0_moveRow : GoodIn wsX0_deleteRow wsX0_moveRow := goodIn_r _ [6, 7, 8, 9, 10, 11, 12, 13, 14, 15, 16, 17, 18, 19, 20] (by decide +kernel) (by decide +kernel)
set_option maxRecDepth 20000 in
theorem gX0_deleteRow_X0_moveRow : GoodIn wsX0_deleteRow (wsV RX0 49 RX0 yX0_moveRow wsX0_moveRow) := goodIn_app (goodIn_of _ (by decide +kernel)) ggX0_deleteRow_X0_moveRow
theorem dX0_deleteRow_0 : decode cX0_deleteRow 0 = .ok (.iload_n 1, 1) := by decide +kernel
theorem dX0_deleteRow_1 : decode cX0_deleteRow 1 = .ok (.iconst 1, 1) := by decide +kernel
theorem dX0_deleteRow_2 : decode cX0_deleteRow 2 = .ok (.iadd, 1) := by decide +kernel
theorem dX0_deleteRow_3 : decode cX0_deleteRow 3 = .ok (.istore_n 2, 1) := by decide +kernel
theorem dX0_deleteRow_4 : decode cX0_deleteRow 4 = .ok (.iload_n 2, 1) := by decide +kernel
theorem dX0_deleteRow_5 : decode cX0_deleteRow 5 = .ok (.aload_n 0, 1) := by decide +kernel
theorem dX0_deleteRow_6 : decode cX0_deleteRow 6 = .ok (.getfield 36, 3) := by decide +kernel
theorem dX0_deleteRow_9 : decode cX0_deleteRow 9 = .ok (.if_icmp .ge 17, 3) := by decide +kernel
theorem dX0_deleteRow_12 : decode cX0_deleteRow 12 = .ok (.aload_n 0, 1) := by decide +kernel
theorem dX0_deleteRow_13 : decode cX0_deleteRow 13 = .ok (.iload_n 2, 1) := by decide +kernel
theorem dX0_deleteRow_14 : decode cX0_deleteRow 14 = .ok (.iload_n 2, 1) := by decide +kernel
theorem dX0_deleteRow_15 : decode cX0_deleteRow 15 = .ok (.iconst 1, 1) := by decide +kernel
theorem dX0_deleteRow_16 : decode cX0_deleteRow 16 = .ok (.isub, 1) := by decide +kernel
theorem dX0_deleteRow_17 : decode cX0_deleteRow 17 = .ok (.invokevirtual 49, 3) := by decide +kernel
theorem dX0_deleteRow_20 : decode cX0_deleteRow 20 = .ok (.iinc 2 1, 3) := by decide +kernel
theorem dX0_deleteRow_23 : decode cX0_deleteRow 23 = .ok (.goto (-19), 3) := by decide +kernel
theorem dX0_deleteRow_26 : decode cX0_deleteRow 26 = .ok (.aload_n 0, 1) := by decide +kernel
theorem dX0_deleteRow_27 : decode cX0_deleteRow 27 = .ok (.dup, 1) := by decide +kernel
theorem dX0_deleteRow_28 : decode cX0_deleteRow 28 = .ok (.getfield 36, 3) := by decide +kernel
theorem dX0_deleteRow_31 : decode cX0_deleteRow 31 = .ok (.iconst 1, 1) := by decide +kernel
theorem dX0_deleteRow_32 : decode cX0_deleteRow 32 = .ok (.isub, 1) := by decide +kernel
theorem dX0_deleteRow_33 : decode cX0_deleteRow 33 = .ok (.putfield 36, 3) := by decide +kernel
theorem dX0_deleteRow_36 : decode cX0_deleteRow 36 = .ok (.return_, 1) := by decide +kernel
theorem dX0_moveRow_0 : decode cX0_moveRow 0 = .ok (.aload_n 0, 1) := by decide +kernel
theorem dX0_moveRow_1 : decode cX0_moveRow 1 = .ok (.getfield 9, 3) := by decide +kernel
theorem dX0_moveRow_4 : decode cX0_moveRow 4 = .ok (.iload_n 2, 1) := by decide +kernel
theorem dX0_moveRow_5 : decode cX0_moveRow 5 = .ok (.aload_n 0, 1) := by decide +kernel
theorem dX0_moveRow_6 : decode cX0_moveRow 6 = .ok (.getfield 9, 3) := by decide +kernel
theorem dX0_moveRow_9 : decode cX0_moveRow 9 = .ok (.iload_n 1, 1) := by decide +kernel
theorem dX0_moveRow_10 : decode cX0_moveRow 10 = .ok (.iaload, 1) := by decide +kernel
theorem dX0_moveRow_11 : decode cX0_moveRow 11 = .ok (.iastore, 1) := by decide +kernel
theorem dX0_moveRow_12 : decode cX0_moveRow 12 = .ok (.aload_n 0, 1) := by decide +kernel
theorem dX0_moveRow_13 : decode cX0_moveRow 13 = .ok (.getfield 15, 3) := by decide +kernel
theorem dX0_moveRow_16 : decode cX0_moveRow 16 = .ok (.iload_n 2, 1) := by decide +kernel
theorem dX0_moveRow_17 : decode cX0_moveRow 17 = .ok (.aload_n 0, 1) := by decide +kernel
theorem dX0_moveRow_18 : decode cX0_moveRow 18 = .ok (.getfield 15, 3) := by decide +kernel
theorem dX0_moveRow_21 : decode cX0_moveRow 21 = .ok (.iload_n 1, 1) := by decide +kernel
theorem dX0_moveRow_22 : decode cX0_moveRow 22 = .ok (.iaload, 1) := by decide +kernel
theorem dX0_moveRow_23 : decode cX0_moveRow 23 = .ok (.iastore, 1) := by decide +kernel
theorem dX0_moveRow_24 : decode cX0_moveRow 24 = .ok (.aload_n 0, 1) := by decide +kernel
theorem dX0_moveRow_25 : decode cX0_moveRow 25 = .ok (.getfield 18, 3) := by decide +kernel
theorem dX0_moveRow_28 : decode cX0_moveRow 28 = .ok (.iload_n 2, 1) := by decide +kernel
theorem dX0_moveRow_29 : decode cX0_moveRow 29 = .ok (.aload_n 0, 1) := by decide +kernel
theorem dX0_moveRow_30 : decode cX0_moveRow 30 = .ok (.getfield 18, 3) := by decide +kernel
theorem dX0_moveRow_33 : decode cX0_moveRow 33 = .ok (.iload_n 1, 1) := by decide +kernel
theorem dX0_moveRow_34 : decode cX0_moveRow 34 = .ok (.iaload, 1) := by decide +kernel
theorem dX0_moveRow_35 : decode cX0_moveRow 35 = .ok (.iastore, 1) := by decide +kernel
theorem dX0_moveRow_36 : decode cX0_moveRow 36 = .ok (.aload_n 0, 1) := by decide +kernel
theorem dX0_moveRow_37 : decode cX0_moveRow 37 = .ok (.getfield 21, 3) := by decide +kernel
theorem dX0_moveRow_40 : decode cX0_moveRow 40 = .ok (.iload_n 2, 1) := by decide +kernel
theorem dX0_moveRow_41 : decode cX0_moveRow 41 = .ok (.aload_n 0, 1) := by decide +kernel
theorem dX0_moveRow_42 : decode cX0_moveRow 42 = .ok (.getfield 21, 3) := by decide +kernel
theorem dX0_moveRow_45 : decode cX0_moveRow 45 = .ok (.iload_n 1, 1) := by decide +kernel
theorem dX0_moveRow_46 : decode cX0_moveRow 46 = .ok (.iaload, 1) := by decide +kernel
theorem dX0_moveRow_47 : decode cX0_moveRow 47 = .ok (.iastore, 1) := by decide +kernel
theorem dX0_moveRow_48 : decode cX0_moveRow 48 = .ok (.return_, 1) := by decide +kernel
theorem dX0_insertColumn_0 : decode cX0_insertColumn 0 = .ok (.aload_n 0, 1) := by decide +kernel
theorem dX0_insertColumn_1 : decode cX0_insertColumn 1 = .ok (.getfield 24, 3) := by decide +kernel
theorem dX0_insertColumn_4 : decode cX0_insertColumn 4 = .ok (.aload_n 0, 1) := by decide +kernel
theorem dX0_insertColumn_5 : decode cX0_insertColumn 5 = .ok (.getfield 46, 3) := by decide +kernel
theorem dX0_insertColumn_8 : decode cX0_insertColumn 8 = .ok (.iload_n 1, 1) := by decide +kernel
theorem dX0_insertColumn_9 : decode cX0_insertColumn 9 = .ok (.iastore, 1) := by decide +kernel
theorem dX0_insertColumn_10 : decode cX0_insertColumn 10 = .ok (.aload_n 0, 1) := by decide +kernel
theorem dX0_insertColumn_11 : decode cX0_insertColumn 11 = .ok (.getfield 27, 3) := by decide +kernel
theorem dX0_insertColumn_14 : decode cX0_insertColumn 14 = .ok (.aload_n 0, 1) := by decide +kernel
theorem dX0_insertColumn_15 : decode cX0_insertColumn 15 = .ok (.getfield 46, 3) := by decide +kernel
theorem dX0_insertColumn_18 : decode cX0_insertColumn 18 = .ok (.iload_n 2, 1) := by decide +kernel
theorem dX0_insertColumn_19 : decode cX0_insertColumn 19 = .ok (.iastore, 1) := by decide +kernel
theorem dX0_insertColumn_20 : decode cX0_insertColumn 20 = .ok (.aload_n 0, 1) := by decide +kernel
theorem dX0_insertColumn_21 : decode cX0_insertColumn 21 = .ok (.getfield 30, 3) := by decide +kernel
theorem dX0_insertColumn_24 : decode cX0_insertColumn 24 = .ok (.aload_n 0, 1) := by decide +kernel
theorem dX0_insertColumn_25 : decode cX0_insertColumn 25 = .ok (.getfield 46, 3) := by decide +kernel
theorem dX0_insertColumn_28 : decode cX0_insertColumn 28 = .ok (.iload_n 3, 1) := by decide +kernel
theorem dX0_insertColumn_29 : decode cX0_insertColumn 29 = .ok (.iastore, 1) := by decide +kernel
theorem dX0_insertColumn_30 : decode cX0_insertColumn 30 = .ok (.aload_n 0, 1) := by decide +kernel
theorem dX0_insertColumn_31 : decode cX0_insertColumn 31 = .ok (.dup, 1) := by decide +kernel
theorem dX0_insertColumn_32 : decode cX0_insertColumn 32 = .ok (.getfield 46, 3) := by decide +kernel
theorem dX0_insertColumn_35 : decode cX0_insertColumn 35 = .ok (.iconst 1, 1) := by decide +kernel
theorem dX0_insertColumn_36 : decode cX0_insertColumn 36 = .ok (.iadd, 1) := by decide +kernel
theorem dX0_insertColumn_37 : decode cX0_insertColumn 37 = .ok (.putfield 46, 3) := by decide +kernel
theorem dX0_insertColumn_40 : decode cX0_insertColumn 40 = .ok (.aload_n 0, 1) := by decide +kernel
theorem dX0_insertColumn_41 : decode cX0_insertColumn 41 = .ok (.getfield 46, 3) := by decide +kernel
theorem dX0_insertColumn_44 : decode cX0_insertColumn 44 = .ok (.iconst 1, 1) := by decide +kernel
theorem dX0_insertColumn_45 : decode cX0_insertColumn 45 = .ok (.isub, 1) := by decide +kernel
theorem dX0_insertColumn_46 : decode cX0_insertColumn 46 = .ok (.ireturn, 1) := by decide +kernel
theorem dX0_deleteColumn_0 : decode cX0_deleteColumn 0 = .ok (.iload_n 1, 1) := by decide +kernel
theorem dX0_deleteColumn_1 : decode cX0_deleteColumn 1 = .ok (.iconst 1, 1) := by decide +kernel
theorem dX0_deleteColumn_2 : decode cX0_deleteColumn 2 = .ok (.iadd, 1) := by decide +kernel
theorem dX0_deleteColumn_3 : decode cX0_deleteColumn 3 = .ok (.istore_n 2, 1) := by decide +kernel
theorem dX0_deleteColumn_4 : decode cX0_deleteColumn 4 = .ok (.iload_n 2, 1) := by decide +kernel
theorem dX0_deleteColumn_5 : decode cX0_deleteColumn 5 = .ok (.aload_n 0, 1) := by decide +kernel
theorem dX0_deleteColumn_6 : decode cX0_deleteColumn 6 = .ok (.getfield 46, 3) := by decide +kernel
theorem dX0_deleteColumn_9 : decode cX0_deleteColumn 9 = .ok (.if_icmp .ge 51, 3) := by decide +kernel
theorem dX0_deleteColumn_12 : decode cX0_deleteColumn 12 = .ok (.aload_n 0, 1) := by decide +kernel
theorem dX0_deleteColumn_13 : decode cX0_deleteColumn 13 = .ok (.getfield 24, 3) := by decide +kernel
theorem dX0_deleteColumn_16 : decode cX0_deleteColumn 16 = .ok (.iload_n 2, 1) := by decide +kernel
theorem dX0_deleteColumn_17 : decode cX0_deleteColumn 17 = .ok (.iconst 1, 1) := by decide +kernel
theorem dX0_deleteColumn_18 : decode cX0_deleteColumn 18 = .ok (.isub, 1) := by decide +kernel
theorem dX0_deleteColumn_19 : decode cX0_deleteColumn 19 = .ok (.aload_n 0, 1) := by decide +kernel
theorem dX0_deleteColumn_20 : decode cX0_deleteColumn 20 = .ok (.getfield 24, 3) := by decide +kernel
theorem dX0_deleteColumn_23 : decode cX0_deleteColumn 23 = .ok (.iload_n 2, 1) := by decide +kernel
theorem dX0_deleteColumn_24 : decode cX0_deleteColumn 24 = .ok (.iaload, 1) := by decide +kernel
theorem dX0_deleteColumn_25 : decode cX0_deleteColumn 25 = .ok (.iastore, 1) := by decide +kernel
theorem dX0_deleteColumn_26 : decode cX0_deleteColumn 26 = .ok (.aload_n 0, 1) := by decide +kernel
theorem dX0_deleteColumn_27 : decode cX0_deleteColumn 27 = .ok (.getfield 27, 3) := by decide +kernel
theorem dX0_deleteColumn_30 : decode cX0_deleteColumn 30 = .ok (.iload_n 2, 1) := by decide +kernel
theorem dX0_deleteColumn_31 : decode cX0_deleteColumn 31 = .ok (.iconst 1, 1) := by decide +kernel
theorem dX0_deleteColumn_32 : decode cX0_deleteColumn 32 = .ok (.isub, 1) := by decide +kernel
theorem dX0_deleteColumn_33 : decode cX0_deleteColumn 33 = .ok (.aload_n 0, 1) := by decide +kernel
theorem dX0_deleteColumn_34 : decode cX0_deleteColumn 34 = .ok (.getfield 27, 3) := by decide +kernel
theorem dX0_deleteColumn_37 : decode cX0_deleteColumn 37 = .ok (.iload_n 2, 1) := by decide +kernel
theorem dX0_deleteColumn_38 : decode cX0_deleteColumn 38 = .ok (.iaload, 1) := by decide +kernel
theorem dX0_deleteColumn_39 : decode cX0_deleteColumn 39 = .ok (.iastore, 1) := by decide +kernel
theorem dX0_deleteColumn_40 : decode cX0_deleteColumn 40 = .ok (.aload_n 0, 1) := by decide +kernel
theorem dX0_deleteColumn_41 : decode cX0_deleteColumn 41 = .ok (.getfield 30, 3) := by decide +kernel
theorem dX0_deleteColumn_44 : decode cX0_deleteColumn 44 = .ok (.iload_n 2, 1) := by decide +kernel
theorem dX0_deleteColumn_45 : decode cX0_deleteColumn 45 = .ok (.iconst 1, 1) := by decide +kernel
theorem dX0_deleteColumn_46 : decode cX0_deleteColumn 46 = .ok (.isub, 1) := by decide +kernel
theorem dX0_deleteColumn_47 : decode cX0_deleteColumn 47 = .ok (.aload_n 0, 1) := by decide +kernel
theorem dX0_deleteColumn_48 : decode cX0_deleteColumn 48 = .ok (.getfield 30, 3) := by decide +kernel
theorem dX0_deleteColumn_51 : decode cX0_deleteColumn 51 = .ok (.iload_n 2, 1) := by decide +kernel
theorem dX0_deleteColumn_52 : decode cX0_deleteColumn 52 = .ok (.iaload, 1) := by decide +kernel
theorem dX0_deleteColumn_53 : decode cX0_deleteColumn 53 = .ok (.iastore, 1) := by decide +kernel
theorem dX0_deleteColumn_54 : decode cX0_deleteColumn 54 = .ok (.iinc 2 1, 3) := by decide +kernel
theorem dX0_deleteColumn_57 : decode cX0_deleteColumn 57 = .ok (.goto (-53), 3) := by decide +kernel
theorem dX0_deleteColumn_60 : decode cX0_deleteColumn 60 = .ok (.aload_n 0, 1) := by decide +kernel
theorem dX0_deleteColumn_61 : decode cX0_deleteColumn 61 = .ok (.dup, 1) := by decide +kernel
theorem dX0_deleteColumn_62 : decode cX0_deleteColumn 62 = .ok (.getfield 46, 3) := by decide +kernel
theorem dX0_deleteColumn_65 : decode cX0_deleteColumn 65 = .ok (.iconst 1, 1) := by decide +kernel
theorem dX0_deleteColumn_66 : decode cX0_deleteColumn 66 = .ok (.isub, 1) := by decide +kernel
theorem dX0_deleteColumn_67 : decode cX0_deleteColumn 67 = .ok (.putfield 46, 3) := by decide +kernel
theorem dX0_deleteColumn_70 : decode cX0_deleteColumn 70 = .ok (.return_, 1) := by decide +kernel
theorem dX0_isTaken_0 : decode cX0_isTaken 0 = .ok (.aload_n 0, 1) := by decide +kernel
theorem dX0_isTaken_1 : decode cX0_isTaken 1 = .ok (.getfield 21, 3) := by decide +kernel
theorem dX0_isTaken_4 : decode cX0_isTaken 4 = .ok (.iload_n 1, 1) := by decide +kernel
theorem dX0_isTaken_5 : decode cX0_isTaken 5 = .ok (.iaload, 1) := by decide +kernel
theorem dX0_isTaken_6 : decode cX0_isTaken 6 = .ok (.iload_n 2, 1) := by decide +kernel
theorem dX0_isTaken_7 : decode cX0_isTaken 7 = .ok (.ishr, 1) := by decide +kernel
theorem dX0_isTaken_8 : decode cX0_isTaken 8 = .ok (.iconst 1, 1) := by decide +kernel
theorem dX0_isTaken_9 : decode cX0_isTaken 9 = .ok (.iand, 1) := by decide +kernel
theorem dX0_isTaken_10 : decode cX0_isTaken 10 = .ok (.iconst 1, 1) := by decide +kernel
theorem dX0_isTaken_11 : decode cX0_isTaken 11 = .ok (.if_icmp .ne 7, 3) := by decide +kernel
theorem dX0_isTaken_14 : decode cX0_isTaken 14 = .ok (.iconst 1, 1) := by decide +kernel
theorem dX0_isTaken_15 : decode cX0_isTaken 15 = .ok (.goto 4, 3) := by decide +kernel
theorem dX0_isTaken_18 : decode cX0_isTaken 18 = .ok (.iconst 0, 1) := by decide +kernel
theorem dX0_isTaken_19 : decode cX0_isTaken 19 = .ok (.ireturn, 1) := by decide +kernel
set_option maxRecDepth 20000 in
theorem ggX0_areFree_X0_bitsOf : GoodIn wsX0_areFree wsX0_bitsOf := goodIn_r _ [5] (by decide +kernel) (by decide +kernel)
set_option maxRecDepth 20000 in
theorem gX0_areFree_X0_bitsOf : GoodIn wsX0_areFree (va_wsS RX0 53 yX0_bitsOf wsX0_bitsOf) := goodIn_app (goodIn_of _ (by decide +kernel)) ggX0_areFree_X0_bitsOf
theorem dX0_areFree_0 : decode cX0_areFree 0 = .ok (.aload_n 0, 1) := by decide +kernel
theorem dX0_areFree_1 : decode cX0_areFree 1 = .ok (.getfield 21, 3) := by decide +kernel
theorem dX0_areFree_4 : decode cX0_areFree 4 = .ok (.iload_n 1, 1) := by decide +kernel
theorem dX0_areFree_5 : decode cX0_areFree 5 = .ok (.iaload, 1) := by decide +kernel
theorem dX0_areFree_6 : decode cX0_areFree 6 = .ok (.iload_n 2, 1) := by decide +kernel
theorem dX0_areFree_7 : decode cX0_areFree 7 = .ok (.iload_n 3, 1) := by decide +kernel
theorem dX0_areFree_8 : decode cX0_areFree 8 = .ok (.invokestatic 53, 3) := by decide +kernel
theorem dX0_areFree_11 : decode cX0_areFree 11 = .ok (.iand, 1) := by decide +kernel
theorem dX0_areFree_12 : decode cX0_areFree 12 = .ok (.ifCond .ne 7, 3) := by decide +kernel
theorem dX0_areFree_15 : decode cX0_areFree 15 = .ok (.iconst 1, 1) := by decide +kernel
theorem dX0_areFree_16 : decode cX0_areFree 16 = .ok (.goto 4, 3) := by decide +kernel
theorem dX0_areFree_19 : decode cX0_areFree 19 = .ok (.iconst 0, 1) := by decide +kernel
theorem dX0_areFree_20 : decode cX0_areFree 20 = .ok (.ireturn, 1) := by decide +kernel
set_option maxRecDepth 20000 in
theorem ggX0_occupy_X0_bitsOf : GoodIn wsX0_occupy wsX0_bitsOf := goodIn_r _ [5] (by decide +kernel) (by decide +kernel)
set_option maxRecDepth 20000 in
theorem gX0_occupy_X0_bitsOf : GoodIn wsX0_occupy (va_wsS RX0 53 yX0_bitsOf wsX0_bitsOf) := goodIn_app (goodIn_of _ (by decide +kernel)) ggX0_occupy_X0_bitsOf
theorem dX0_occupy_0 : decode cX0_occupy 0 = .ok (.aload_n 0, 1) := by decide +kernel
theorem dX0_occupy_1 : decode cX0_occupy 1 = .ok (.getfield 21, 3) := by decide +kernel
theorem dX0_occupy_4 : decode cX0_occupy 4 = .ok (.iload_n 1, 1) := by decide +kernel
theorem dX0_occupy_5 : decode cX0_occupy 5 = .ok (.aload_n 0, 1) := by decide +kernel
theorem dX0_occupy_6 : decode cX0_occupy 6 = .ok (.getfield 21, 3) := by decide +kernel
theorem dX0_occupy_9 : decode cX0_occupy 9 = .ok (.iload_n 1, 1) := by decide +kernel
theorem dX0_occupy_10 : decode cX0_occupy 10 = .ok (.iaload, 1) := by decide +kernel
theorem dX0_occupy_11 : decode cX0_occupy 11 = .ok (.iload_n 2, 1) := by decide +kernel
theorem dX0_occupy_12 : decode cX0_occupy 12 = .ok (.iload_n 3, 1) := by decide +kernel
theorem dX0_occupy_13 : decode cX0_occupy 13 = .ok (.invokestatic 53, 3) := by decide +kernel
theorem dX0_occupy_16 : decode cX0_occupy 16 = .ok (.ior, 1) := by decide +kernel
theorem dX0_occupy_17 : decode cX0_occupy 17 = .ok (.iastore, 1) := by decide +kernel
theorem dX0_occupy_18 : decode cX0_occupy 18 = .ok (.return_, 1) := by decide +kernel
set_option maxRecDepth 20000 in
theorem ggX0_vacate_X0_bitsOf : GoodIn wsX0_vacate wsX0_bitsOf := goodIn_r _ [5] (by decide +kernel) (by decide +kernel)
set_option maxRecDepth 20000 in
theorem gX0_vacate_X0_bitsOf : GoodIn wsX0_vacate (va_wsS RX0 53 yX0_bitsOf wsX0_bitsOf) := goodIn_app (goodIn_of _ (by decide +kernel)) ggX0_vacate_X0_bitsOf
theorem dX0_vacate_0 : decode cX0_vacate 0 = .ok (.aload_n 0, 1) := by decide +kernel
theorem dX0_vacate_1 : decode cX0_vacate 1 = .ok (.getfield 21, 3) := by decide +kernel
theorem dX0_vacate_4 : decode cX0_vacate 4 = .ok (.iload_n 1, 1) := by decide +kernel
theorem dX0_vacate_5 : decode cX0_vacate 5 = .ok (.aload_n 0, 1) := by decide +kernel
theorem dX0_vacate_6 : decode cX0_vacate 6 = .ok (.getfield 21, 3) := by decide +kernel
theorem dX0_vacate_9 : decode cX0_vacate 9 = .ok (.iload_n 1, 1) := by decide +kernel
theorem dX0_vacate_10 : decode cX0_vacate 10 = .ok (.iaload, 1) := by decide +kernel
theorem dX0_vacate_11 : decode cX0_vacate 11 = .ok (.iload_n 2, 1) := by decide +kernel
theorem dX0_vacate_12 : decode cX0_vacate 12 = .ok (.iconst 1, 1) := by decide +kernel
theorem dX0_vacate_13 : decode cX0_vacate 13 = .ok (.invokestatic 53, 3) := by decide +kernel
theorem dX0_vacate_16 : decode cX0_vacate 16 = .ok (.iconst (-1), 1) := by decide +kernel
theorem dX0_vacate_17 : decode cX0_vacate 17 = .ok (.ixor, 1) := by decide +kernel
theorem dX0_vacate_18 : decode cX0_vacate 18 = .ok (.iand, 1) := by decide +kernel
theorem dX0_vacate_19 : decode cX0_vacate 19 = .ok (.iastore, 1) := by decide +kernel
theorem dX0_vacate_20 : decode cX0_vacate 20 = .ok (.return_, 1) := by decide +kernel
theorem dX0_vacateAll_0 : decode cX0_vacateAll 0 = .ok (.iconst 0, 1) := by decide +kernel
theorem dX0_vacateAll_1 : decode cX0_vacateAll 1 = .ok (.istore_n 1, 1) := by decide +kernel
theorem dX0_vacateAll_2 : decode cX0_vacateAll 2 = .ok (.iload_n 1, 1) := by decide +kernel
theorem dX0_vacateAll_3 : decode cX0_vacateAll 3 = .ok (.aload_n 0, 1) := by decide +kernel
theorem dX0_vacateAll_4 : decode cX0_vacateAll 4 = .ok (.getfield 36, 3) := by decide +kernel
theorem dX0_vacateAll_7 : decode cX0_vacateAll 7 = .ok (.if_icmp .ge 16, 3) := by decide +kernel
theorem dX0_vacateAll_10 : decode cX0_vacateAll 10 = .ok (.aload_n 0, 1) := by decide +kernel
theorem dX0_vacateAll_11 : decode cX0_vacateAll 11 = .ok (.getfield 21, 3) := by decide +kernel
theorem dX0_vacateAll_14 : decode cX0_vacateAll 14 = .ok (.iload_n 1, 1) := by decide +kernel
theorem dX0_vacateAll_15 : decode cX0_vacateAll 15 = .ok (.iconst 0, 1) := by decide +kernel
theorem dX0_vacateAll_16 : decode cX0_vacateAll 16 = .ok (.iastore, 1) := by decide +kernel
theorem dX0_vacateAll_17 : decode cX0_vacateAll 17 = .ok (.iinc 1 1, 3) := by decide +kernel
theorem dX0_vacateAll_20 : decode cX0_vacateAll 20 = .ok (.goto (-18), 3) := by decide +kernel
theorem dX0_vacateAll_23 : decode cX0_vacateAll 23 = .ok (.return_, 1) := by decide +kernel
theorem dX0_bitsOf_0 : decode cX0_bitsOf 0 = .ok (.iconst 1, 1) := by decide +kernel
theorem dX0_bitsOf_1 : decode cX0_bitsOf 1 = .ok (.iload_n 1, 1) := by decide +kernel
theorem dX0_bitsOf_2 : decode cX0_bitsOf 2 = .ok (.ishl, 1) := by decide +kernel
theorem dX0_bitsOf_3 : decode cX0_bitsOf 3 = .ok (.iconst 1, 1) := by decide +kernel
theorem dX0_bitsOf_4 : decode cX0_bitsOf 4 = .ok (.isub, 1) := by decide +kernel
theorem dX0_bitsOf_5 : decode cX0_bitsOf 5 = .ok (.iload_n 0, 1) := by decide +kernel
theorem dX0_bitsOf_6 : decode cX0_bitsOf 6 = .ok (.ishl, 1) := by decide +kernel
theorem dX0_bitsOf_7 : decode cX0_bitsOf 7 = .ok (.ireturn, 1) := by decide +kernel
set_option maxRecDepth 20000 in
theorem ggX0_takenInRow_J6_bitCount_0f7a4 : GoodIn wsX0_takenInRow wsJ6_bitCount_0f7a4 := goodIn_r _ [5, 6, 7, 8] (by decide +kernel) (by decide +kernel)
set_option maxRecDepth 20000 in
theorem gX0_takenInRow_J6_bitCount_0f7a4 : GoodIn wsX0_takenInRow (va_wsS RX0 57 yJ6_bitCount_0f7a4 wsJ6_bitCount_0f7a4) := goodIn_app (goodIn_of _ (by decide +kernel)) ggX0_takenInRow_J6_bitCount_0f7a4
theorem dX0_takenInRow_0 : decode cX0_takenInRow 0 = .ok (.aload_n 0, 1) := by decide +kernel
theorem dX0_takenInRow_1 : decode cX0_takenInRow 1 = .ok (.getfield 21, 3) := by decide +kernel
theorem dX0_takenInRow_4 : decode cX0_takenInRow 4 = .ok (.iload_n 1, 1) := by decide +kernel
theorem dX0_takenInRow_5 : decode cX0_takenInRow 5 = .ok (.iaload, 1) := by decide +kernel
theorem dX0_takenInRow_6 : decode cX0_takenInRow 6 = .ok (.invokestatic 57, 3) := by decide +kernel
theorem dX0_takenInRow_9 : decode cX0_takenInRow 9 = .ok (.ireturn, 1) := by decide +kernel
set_option maxRecDepth 20000 in
theorem ggX0_takenInAll_X0_takenInRow : GoodIn wsX0_takenInAll wsX0_takenInRow := goodIn_r _ [6, 7, 8, 9, 10, 11, 12, 13, 14, 15, 16, 17, 18, 19, 20, 21, 22, 23, 24] (by decide +kernel) (by decide +kernel)
set_option maxRecDepth 20000 in
theorem gX0_takenInAll_X0_takenInRow : GoodIn wsX0_takenInAll (wsV RX0 63 RX0 yX0_takenInRow wsX0_takenInRow) := goodIn_app (goodIn_of _ (by decide +kernel)) ggX0_takenInAll_X0_takenInRow
theorem dX0_takenInAll_0 : decode cX0_takenInAll 0 = .ok (.iconst 0, 1) := by decide +kernel
theorem dX0_takenInAll_1 : decode cX0_takenInAll 1 = .ok (.istore_n 1, 1) := by decide +kernel
theorem dX0_takenInAll_2 : decode cX0_takenInAll 2 = .ok (.iconst 0, 1) := by decide +kernel
theorem dX0_takenInAll_3 : decode cX0_takenInAll 3 = .ok (.istore_n 2, 1) := by decide +kernel
theorem dX0_takenInAll_4 : decode cX0_takenInAll 4 = .ok (.iload_n 2, 1) := by decide +kernel
theorem dX0_takenInAll_5 : decode cX0_takenInAll 5 = .ok (.aload_n 0, 1) := by decide +kernel
theorem dX0_takenInAll_6 : decode cX0_takenInAll 6 = .ok (.getfield 36, 3) := by decide +kernel
theorem dX0_takenInAll_9 : decode cX0_takenInAll 9 = .ok (.if_icmp .ge 17, 3) := by decide +kernel
theorem dX0_takenInAll_12 : decode cX0_takenInAll 12 = .ok (.iload_n 1, 1) := by decide +kernel
theorem dX0_takenInAll_13 : decode cX0_takenInAll 13 = .ok (.aload_n 0, 1) := by decide +kernel
theorem dX0_takenInAll_14 : decode cX0_takenInAll 14 = .ok (.iload_n 2, 1) := by decide +kernel
theorem dX0_takenInAll_15 : decode cX0_takenInAll 15 = .ok (.invokevirtual 63, 3) := by decide +kernel
theorem dX0_takenInAll_18 : decode cX0_takenInAll 18 = .ok (.iadd, 1) := by decide +kernel
theorem dX0_takenInAll_19 : decode cX0_takenInAll 19 = .ok (.istore_n 1, 1) := by decide +kernel
theorem dX0_takenInAll_20 : decode cX0_takenInAll 20 = .ok (.iinc 2 1, 3) := by decide +kernel
theorem dX0_takenInAll_23 : decode cX0_takenInAll 23 = .ok (.goto (-19), 3) := by decide +kernel
theorem dX0_takenInAll_26 : decode cX0_takenInAll 26 = .ok (.iload_n 1, 1) := by decide +kernel
theorem dX0_takenInAll_27 : decode cX0_takenInAll 27 = .ok (.ireturn, 1) := by decide +kernel
theorem dX0_seatsInAll_0 : decode cX0_seatsInAll 0 = .ok (.iconst 0, 1) := by decide +kernel
theorem dX0_seatsInAll_1 : decode cX0_seatsInAll 1 = .ok (.istore_n 1, 1) := by decide +kernel
theorem dX0_seatsInAll_2 : decode cX0_seatsInAll 2 = .ok (.iconst 0, 1) := by decide +kernel
theorem dX0_seatsInAll_3 : decode cX0_seatsInAll 3 = .ok (.istore_n 2, 1) := by decide +kernel
theorem dX0_seatsInAll_4 : decode cX0_seatsInAll 4 = .ok (.iload_n 2, 1) := by decide +kernel
theorem dX0_seatsInAll_5 : decode cX0_seatsInAll 5 = .ok (.aload_n 0, 1) := by decide +kernel
theorem dX0_seatsInAll_6 : decode cX0_seatsInAll 6 = .ok (.getfield 36, 3) := by decide +kernel
theorem dX0_seatsInAll_9 : decode cX0_seatsInAll 9 = .ok (.if_icmp .ge 18, 3) := by decide +kernel
theorem dX0_seatsInAll_12 : decode cX0_seatsInAll 12 = .ok (.iload_n 1, 1) := by decide +kernel
theorem dX0_seatsInAll_13 : decode cX0_seatsInAll 13 = .ok (.aload_n 0, 1) := by decide +kernel
theorem dX0_seatsInAll_14 : decode cX0_seatsInAll 14 = .ok (.getfield 18, 3) := by decide +kernel
theorem dX0_seatsInAll_17 : decode cX0_seatsInAll 17 = .ok (.iload_n 2, 1) := by decide +kernel
theorem dX0_seatsInAll_18 : decode cX0_seatsInAll 18 = .ok (.iaload, 1) := by decide +kernel
theorem dX0_seatsInAll_19 : decode cX0_seatsInAll 19 = .ok (.iadd, 1) := by decide +kernel
theorem dX0_seatsInAll_20 : decode cX0_seatsInAll 20 = .ok (.istore_n 1, 1) := by decide +kernel
theorem dX0_seatsInAll_21 : decode cX0_seatsInAll 21 = .ok (.iinc 2 1, 3) := by decide +kernel
theorem dX0_seatsInAll_24 : decode cX0_seatsInAll 24 = .ok (.goto (-20), 3) := by decide +kernel
theorem dX0_seatsInAll_27 : decode cX0_seatsInAll 27 = .ok (.iload_n 1, 1) := by decide +kernel
theorem dX0_seatsInAll_28 : decode cX0_seatsInAll 28 = .ok (.ireturn, 1) := by decide +kernel
set_option maxRecDepth 20000 in
theorem ggX0_longestFree_X0_isTaken : GoodIn wsX0_longestFree wsX0_isTaken := goodIn_r _ [11, 12, 13, 14, 15, 16, 17, 18, 19, 20, 21, 22] (by decide +kernel) (by decide +kernel)
set_option maxRecDepth 20000 in
theorem gX0_longestFree_X0_isTaken : GoodIn wsX0_longestFree (wsV RX0 66 RX0 yX0_isTaken wsX0_isTaken) := goodIn_app (goodIn_of _ (by decide +kernel)) ggX0_longestFree_X0_isTaken
theorem dX0_longestFree_0 : decode cX0_longestFree 0 = .ok (.iconst 0, 1) := by decide +kernel
theorem dX0_longestFree_1 : decode cX0_longestFree 1 = .ok (.istore_n 1, 1) := by decide +kernel
theorem dX0_longestFree_2 : decode cX0_longestFree 2 = .ok (.iconst 0, 1) := by decide +kernel
theorem dX0_longestFree_3 : decode cX0_longestFree 3 = .ok (.istore_n 2, 1) := by decide +kernel
theorem dX0_longestFree_4 : decode cX0_longestFree 4 = .ok (.iload_n 2, 1) := by decide +kernel
theorem dX0_longestFree_5 : decode cX0_longestFree 5 = .ok (.aload_n 0, 1) := by decide +kernel
theorem dX0_longestFree_6 : decode cX0_longestFree 6 = .ok (.getfield 36, 3) := by decide +kernel
theorem dX0_longestFree_9 : decode cX0_longestFree 9 = .ok (.if_icmp .ge 55, 3) := by decide +kernel
theorem dX0_longestFree_12 : decode cX0_longestFree 12 = .ok (.iconst 0, 1) := by decide +kernel
theorem dX0_longestFree_13 : decode cX0_longestFree 13 = .ok (.istore_n 3, 1) := by decide +kernel
theorem dX0_longestFree_14 : decode cX0_longestFree 14 = .ok (.iconst 0, 1) := by decide +kernel
theorem dX0_longestFree_15 : decode cX0_longestFree 15 = .ok (.istore 4, 2) := by decide +kernel
theorem dX0_longestFree_17 : decode cX0_longestFree 17 = .ok (.iload 4, 2) := by decide +kernel
theorem dX0_longestFree_19 : decode cX0_longestFree 19 = .ok (.aload_n 0, 1) := by decide +kernel
theorem dX0_longestFree_20 : decode cX0_longestFree 20 = .ok (.getfield 18, 3) := by decide +kernel
theorem dX0_longestFree_23 : decode cX0_longestFree 23 = .ok (.iload_n 2, 1) := by decide +kernel
theorem dX0_longestFree_24 : decode cX0_longestFree 24 = .ok (.iaload, 1) := by decide +kernel
theorem dX0_longestFree_25 : decode cX0_longestFree 25 = .ok (.if_icmp .ge 33, 3) := by decide +kernel
theorem dX0_longestFree_28 : decode cX0_longestFree 28 = .ok (.aload_n 0, 1) := by decide +kernel
theorem dX0_longestFree_29 : decode cX0_longestFree 29 = .ok (.iload_n 2, 1) := by decide +kernel
theorem dX0_longestFree_30 : decode cX0_longestFree 30 = .ok (.iload 4, 2) := by decide +kernel
theorem dX0_longestFree_32 : decode cX0_longestFree 32 = .ok (.invokevirtual 66, 3) := by decide +kernel
theorem dX0_longestFree_35 : decode cX0_longestFree 35 = .ok (.ifCond .eq 7, 3) := by decide +kernel
theorem dX0_longestFree_38 : decode cX0_longestFree 38 = .ok (.iconst 0, 1) := by decide +kernel
theorem dX0_longestFree_39 : decode cX0_longestFree 39 = .ok (.goto 6, 3) := by decide +kernel
theorem dX0_longestFree_42 : decode cX0_longestFree 42 = .ok (.iload_n 3, 1) := by decide +kernel
theorem dX0_longestFree_43 : decode cX0_longestFree 43 = .ok (.iconst 1, 1) := by decide +kernel
theorem dX0_longestFree_44 : decode cX0_longestFree 44 = .ok (.iadd, 1) := by decide +kernel
theorem dX0_longestFree_45 : decode cX0_longestFree 45 = .ok (.istore_n 3, 1) := by decide +kernel
theorem dX0_longestFree_46 : decode cX0_longestFree 46 = .ok (.iload_n 1, 1) := by decide +kernel
theorem dX0_longestFree_47 : decode cX0_longestFree 47 = .ok (.iload_n 3, 1) := by decide +kernel
theorem dX0_longestFree_48 : decode cX0_longestFree 48 = .ok (.invokestatic 70, 3) := by decide +kernel
theorem dX0_longestFree_51 : decode cX0_longestFree 51 = .ok (.istore_n 1, 1) := by decide +kernel
theorem dX0_longestFree_52 : decode cX0_longestFree 52 = .ok (.iinc 4 1, 3) := by decide +kernel
theorem dX0_longestFree_55 : decode cX0_longestFree 55 = .ok (.goto (-38), 3) := by decide +kernel
theorem dX0_longestFree_58 : decode cX0_longestFree 58 = .ok (.iinc 2 1, 3) := by decide +kernel
theorem dX0_longestFree_61 : decode cX0_longestFree 61 = .ok (.goto (-57), 3) := by decide +kernel
theorem dX0_longestFree_64 : decode cX0_longestFree 64 = .ok (.iload_n 1, 1) := by decide +kernel
theorem dX0_longestFree_65 : decode cX0_longestFree 65 = .ok (.ireturn, 1) := by decide +kernel
theorem dX0_sideOf_0 : decode cX0_sideOf 0 = .ok (.iconst 2, 1) := by decide +kernel
theorem dX0_sideOf_1 : decode cX0_sideOf 1 = .ok (.iload_n 2, 1) := by decide +kernel
theorem dX0_sideOf_2 : decode cX0_sideOf 2 = .ok (.imul, 1) := by decide +kernel
theorem dX0_sideOf_3 : decode cX0_sideOf 3 = .ok (.aload_n 0, 1) := by decide +kernel
theorem dX0_sideOf_4 : decode cX0_sideOf 4 = .ok (.getfield 18, 3) := by decide +kernel
theorem dX0_sideOf_7 : decode cX0_sideOf 7 = .ok (.iload_n 1, 1) := by decide +kernel
theorem dX0_sideOf_8 : decode cX0_sideOf 8 = .ok (.iaload, 1) := by decide +kernel
theorem dX0_sideOf_9 : decode cX0_sideOf 9 = .ok (.iconst 1, 1) := by decide +kernel
theorem dX0_sideOf_10 : decode cX0_sideOf 10 = .ok (.isub, 1) := by decide +kernel
theorem dX0_sideOf_11 : decode cX0_sideOf 11 = .ok (.isub, 1) := by decide +kernel
theorem dX0_sideOf_12 : decode cX0_sideOf 12 = .ok (.ireturn, 1) := by decide +kernel
set_option maxRecDepth 20000 in
theorem ggX0_isHeadInWay_X0_sideOf : GoodIn wsX0_isHeadInWay wsX0_sideOf := goodIn_r _ [10, 11, 22, 23, 24, 25, 26, 27, 28, 29, 30, 31] (by decide +kernel) (by decide +kernel)
set_option maxRecDepth 20000 in
theorem gX0_isHeadInWay_X0_sideOf : GoodIn wsX0_isHeadInWay (wsV RX0 75 RX0 yX0_sideOf wsX0_sideOf) := goodIn_app (goodIn_of _ (by decide +kernel)) ggX0_isHeadInWay_X0_sideOf
set_option maxRecDepth 20000 in
theorem ggX0_isHeadInWay_X0_headOverPoint : GoodIn wsX0_isHeadInWay wsX0_headOverPoint := goodIn_r _ [15, 16, 17, 22, 23, 24, 25, 26, 27, 28, 29, 30, 31] (by decide +kernel) (by decide +kernel)
set_option maxRecDepth 20000 in
theorem gX0_isHeadInWay_X0_headOverPoint : GoodIn wsX0_isHeadInWay (wsV RX0 81 RX0 yX0_headOverPoint wsX0_headOverPoint) := goodIn_app (goodIn_of _ (by decide +kernel)) ggX0_isHeadInWay_X0_headOverPoint
set_option maxRecDepth 20000 in
theorem ggX0_isHeadInWay_X0_eyeOverPoint : GoodIn wsX0_isHeadInWay wsX0_eyeOverPoint := goodIn_r _ [21, 16, 17, 22, 23, 24, 25, 26, 27, 28, 29, 30, 31] (by decide +kernel) (by decide +kernel)
set_option maxRecDepth 20000 in
theorem gX0_isHeadInWay_X0_eyeOverPoint : GoodIn wsX0_isHeadInWay (wsV RX0 84 RX0 yX0_eyeOverPoint wsX0_eyeOverPoint) := goodIn_app (goodIn_of _ (by decide +kernel)) ggX0_isHeadInWay_X0_eyeOverPoint
theorem dX0_isHeadInWay_0 : decode cX0_isHeadInWay 0 = .ok (.aload_n 0, 1) := by decide +kernel
theorem dX0_isHeadInWay_1 : decode cX0_isHeadInWay 1 = .ok (.getfield 9, 3) := by decide +kernel
theorem dX0_isHeadInWay_4 : decode cX0_isHeadInWay 4 = .ok (.iload_n 1, 1) := by decide +kernel
theorem dX0_isHeadInWay_5 : decode cX0_isHeadInWay 5 = .ok (.iaload, 1) := by decide +kernel
theorem dX0_isHeadInWay_6 : decode cX0_isHeadInWay 6 = .ok (.istore 5, 2) := by decide +kernel
theorem dX0_isHeadInWay_8 : decode cX0_isHeadInWay 8 = .ok (.aload_n 0, 1) := by decide +kernel
theorem dX0_isHeadInWay_9 : decode cX0_isHeadInWay 9 = .ok (.getfield 9, 3) := by decide +kernel
theorem dX0_isHeadInWay_12 : decode cX0_isHeadInWay 12 = .ok (.iload_n 3, 1) := by decide +kernel
theorem dX0_isHeadInWay_13 : decode cX0_isHeadInWay 13 = .ok (.iaload, 1) := by decide +kernel
theorem dX0_isHeadInWay_14 : decode cX0_isHeadInWay 14 = .ok (.istore 6, 2) := by decide +kernel
theorem dX0_isHeadInWay_16 : decode cX0_isHeadInWay 16 = .ok (.aload_n 0, 1) := by decide +kernel
theorem dX0_isHeadInWay_17 : decode cX0_isHeadInWay 17 = .ok (.iload_n 3, 1) := by decide +kernel
theorem dX0_isHeadInWay_18 : decode cX0_isHeadInWay 18 = .ok (.iload 4, 2) := by decide +kernel
theorem dX0_isHeadInWay_20 : decode cX0_isHeadInWay 20 = .ok (.invokevirtual 75, 3) := by decide +kernel
theorem dX0_isHeadInWay_23 : decode cX0_isHeadInWay 23 = .ok (.iload 5, 2) := by decide +kernel
theorem dX0_isHeadInWay_25 : decode cX0_isHeadInWay 25 = .ok (.imul, 1) := by decide +kernel
theorem dX0_isHeadInWay_26 : decode cX0_isHeadInWay 26 = .ok (.aload_n 0, 1) := by decide +kernel
theorem dX0_isHeadInWay_27 : decode cX0_isHeadInWay 27 = .ok (.iload_n 1, 1) := by decide +kernel
theorem dX0_isHeadInWay_28 : decode cX0_isHeadInWay 28 = .ok (.iload_n 2, 1) := by decide +kernel
theorem dX0_isHeadInWay_29 : decode cX0_isHeadInWay 29 = .ok (.invokevirtual 75, 3) := by decide +kernel
theorem dX0_isHeadInWay_32 : decode cX0_isHeadInWay 32 = .ok (.iload 6, 2) := by decide +kernel
theorem dX0_isHeadInWay_34 : decode cX0_isHeadInWay 34 = .ok (.imul, 1) := by decide +kernel
theorem dX0_isHeadInWay_35 : decode cX0_isHeadInWay 35 = .ok (.isub, 1) := by decide +kernel
theorem dX0_isHeadInWay_36 : decode cX0_isHeadInWay 36 = .ok (.istore 7, 2) := by decide +kernel
theorem dX0_isHeadInWay_38 : decode cX0_isHeadInWay 38 = .ok (.iload 6, 2) := by decide +kernel
theorem dX0_isHeadInWay_40 : decode cX0_isHeadInWay 40 = .ok (.iload 5, 2) := by decide +kernel
theorem dX0_isHeadInWay_42 : decode cX0_isHeadInWay 42 = .ok (.if_icmp .ge 13, 3) := by decide +kernel
theorem dX0_isHeadInWay_45 : decode cX0_isHeadInWay 45 = .ok (.iload 7, 2) := by decide +kernel
theorem dX0_isHeadInWay_47 : decode cX0_isHeadInWay 47 = .ok (.invokestatic 78, 3) := by decide +kernel
theorem dX0_isHeadInWay_50 : decode cX0_isHeadInWay 50 = .ok (.iload 5, 2) := by decide +kernel
theorem dX0_isHeadInWay_52 : decode cX0_isHeadInWay 52 = .ok (.if_icmp .lt 5, 3) := by decide +kernel
theorem dX0_isHeadInWay_55 : decode cX0_isHeadInWay 55 = .ok (.iconst 0, 1) := by decide +kernel
theorem dX0_isHeadInWay_56 : decode cX0_isHeadInWay 56 = .ok (.ireturn, 1) := by decide +kernel
theorem dX0_isHeadInWay_57 : decode cX0_isHeadInWay 57 = .ok (.aload_n 0, 1) := by decide +kernel
theorem dX0_isHeadInWay_58 : decode cX0_isHeadInWay 58 = .ok (.iload_n 3, 1) := by decide +kernel
theorem dX0_isHeadInWay_59 : decode cX0_isHeadInWay 59 = .ok (.invokevirtual 81, 3) := by decide +kernel
theorem dX0_isHeadInWay_62 : decode cX0_isHeadInWay 62 = .ok (.iload 5, 2) := by decide +kernel
theorem dX0_isHeadInWay_64 : decode cX0_isHeadInWay 64 = .ok (.imul, 1) := by decide +kernel
theorem dX0_isHeadInWay_65 : decode cX0_isHeadInWay 65 = .ok (.aload_n 0, 1) := by decide +kernel
theorem dX0_isHeadInWay_66 : decode cX0_isHeadInWay 66 = .ok (.iload_n 1, 1) := by decide +kernel
theorem dX0_isHeadInWay_67 : decode cX0_isHeadInWay 67 = .ok (.invokevirtual 84, 3) := by decide +kernel
theorem dX0_isHeadInWay_70 : decode cX0_isHeadInWay 70 = .ok (.iload 6, 2) := by decide +kernel
theorem dX0_isHeadInWay_72 : decode cX0_isHeadInWay 72 = .ok (.imul, 1) := by decide +kernel
theorem dX0_isHeadInWay_73 : decode cX0_isHeadInWay 73 = .ok (.if_icmp .le 7, 3) := by decide +kernel
theorem dX0_isHeadInWay_76 : decode cX0_isHeadInWay 76 = .ok (.iconst 1, 1) := by decide +kernel
theorem dX0_isHeadInWay_77 : decode cX0_isHeadInWay 77 = .ok (.goto 4, 3) := by decide +kernel
theorem dX0_isHeadInWay_80 : decode cX0_isHeadInWay 80 = .ok (.iconst 0, 1) := by decide +kernel
theorem dX0_isHeadInWay_81 : decode cX0_isHeadInWay 81 = .ok (.ireturn, 1) := by decide +kernel
theorem dX0_eyeOverPoint_0 : decode cX0_eyeOverPoint 0 = .ok (.aload_n 0, 1) := by decide +kernel
theorem dX0_eyeOverPoint_1 : decode cX0_eyeOverPoint 1 = .ok (.getfield 15, 3) := by decide +kernel
theorem dX0_eyeOverPoint_4 : decode cX0_eyeOverPoint 4 = .ok (.iload_n 1, 1) := by decide +kernel
theorem dX0_eyeOverPoint_5 : decode cX0_eyeOverPoint 5 = .ok (.iaload, 1) := by decide +kernel
theorem dX0_eyeOverPoint_6 : decode cX0_eyeOverPoint 6 = .ok (.aload_n 0, 1) := by decide +kernel
theorem dX0_eyeOverPoint_7 : decode cX0_eyeOverPoint 7 = .ok (.getfield 33, 3) := by decide +kernel
theorem dX0_eyeOverPoint_10 : decode cX0_eyeOverPoint 10 = .ok (.iconst 1, 1) := by decide +kernel
theorem dX0_eyeOverPoint_11 : decode cX0_eyeOverPoint 11 = .ok (.iaload, 1) := by decide +kernel
theorem dX0_eyeOverPoint_12 : decode cX0_eyeOverPoint 12 = .ok (.iadd, 1) := by decide +kernel
theorem dX0_eyeOverPoint_13 : decode cX0_eyeOverPoint 13 = .ok (.aload_n 0, 1) := by decide +kernel
theorem dX0_eyeOverPoint_14 : decode cX0_eyeOverPoint 14 = .ok (.getfield 33, 3) := by decide +kernel
theorem dX0_eyeOverPoint_17 : decode cX0_eyeOverPoint 17 = .ok (.iconst 0, 1) := by decide +kernel
theorem dX0_eyeOverPoint_18 : decode cX0_eyeOverPoint 18 = .ok (.iaload, 1) := by decide +kernel
theorem dX0_eyeOverPoint_19 : decode cX0_eyeOverPoint 19 = .ok (.isub, 1) := by decide +kernel
theorem dX0_eyeOverPoint_20 : decode cX0_eyeOverPoint 20 = .ok (.ireturn, 1) := by decide +kernel
theorem dX0_headOverPoint_0 : decode cX0_headOverPoint 0 = .ok (.aload_n 0, 1) := by decide +kernel
theorem dX0_headOverPoint_1 : decode cX0_headOverPoint 1 = .ok (.getfield 15, 3) := by decide +kernel
theorem dX0_headOverPoint_4 : decode cX0_headOverPoint 4 = .ok (.iload_n 1, 1) := by decide +kernel
theorem dX0_headOverPoint_5 : decode cX0_headOverPoint 5 = .ok (.iaload, 1) := by decide +kernel
theorem dX0_headOverPoint_6 : decode cX0_headOverPoint 6 = .ok (.aload_n 0, 1) := by decide +kernel
theorem dX0_headOverPoint_7 : decode cX0_headOverPoint 7 = .ok (.getfield 33, 3) := by decide +kernel
theorem dX0_headOverPoint_10 : decode cX0_headOverPoint 10 = .ok (.iconst 1, 1) := by decide +kernel
theorem dX0_headOverPoint_11 : decode cX0_headOverPoint 11 = .ok (.iaload, 1) := by decide +kernel
theorem dX0_headOverPoint_12 : decode cX0_headOverPoint 12 = .ok (.iadd, 1) := by decide +kernel
theorem dX0_headOverPoint_13 : decode cX0_headOverPoint 13 = .ok (.aload_n 0, 1) := by decide +kernel
theorem dX0_headOverPoint_14 : decode cX0_headOverPoint 14 = .ok (.getfield 33, 3) := by decide +kernel
theorem dX0_headOverPoint_17 : decode cX0_headOverPoint 17 = .ok (.iconst 2, 1) := by decide +kernel
theorem dX0_headOverPoint_18 : decode cX0_headOverPoint 18 = .ok (.iaload, 1) := by decide +kernel
theorem dX0_headOverPoint_19 : decode cX0_headOverPoint 19 = .ok (.iadd, 1) := by decide +kernel
theorem dX0_headOverPoint_20 : decode cX0_headOverPoint 20 = .ok (.aload_n 0, 1) := by decide +kernel
theorem dX0_headOverPoint_21 : decode cX0_headOverPoint 21 = .ok (.getfield 33, 3) := by decide +kernel
theorem dX0_headOverPoint_24 : decode cX0_headOverPoint 24 = .ok (.iconst 0, 1) := by decide +kernel
theorem dX0_headOverPoint_25 : decode cX0_headOverPoint 25 = .ok (.iaload, 1) := by decide +kernel
theorem dX0_headOverPoint_26 : decode cX0_headOverPoint 26 = .ok (.isub, 1) := by decide +kernel
theorem dX0_headOverPoint_27 : decode cX0_headOverPoint 27 = .ok (.ireturn, 1) := by decide +kernel
set_option maxRecDepth 20000 in
theorem ggX0_isColumnInWay_X0_sideOf : GoodIn wsX0_isColumnInWay wsX0_sideOf := goodIn_r _ [13, 14, 15, 16, 17, 18, 19, 20, 21, 22, 23, 24] (by decide +kernel) (by decide +kernel)
set_option maxRecDepth 20000 in
theorem gX0_isColumnInWay_X0_sideOf : GoodIn wsX0_isColumnInWay (wsV RX0 75 RX0 yX0_sideOf wsX0_sideOf) := goodIn_app (goodIn_of _ (by decide +kernel)) ggX0_isColumnInWay_X0_sideOf
theorem dX0_isColumnInWay_0 : decode cX0_isColumnInWay 0 = .ok (.aload_n 0, 1) := by decide +kernel
theorem dX0_isColumnInWay_1 : decode cX0_isColumnInWay 1 = .ok (.getfield 9, 3) := by decide +kernel
theorem dX0_isColumnInWay_4 : decode cX0_isColumnInWay 4 = .ok (.iload_n 1, 1) := by decide +kernel
theorem dX0_isColumnInWay_5 : decode cX0_isColumnInWay 5 = .ok (.iaload, 1) := by decide +kernel
theorem dX0_isColumnInWay_6 : decode cX0_isColumnInWay 6 = .ok (.istore 4, 2) := by decide +kernel
theorem dX0_isColumnInWay_8 : decode cX0_isColumnInWay 8 = .ok (.aload_n 0, 1) := by decide +kernel
theorem dX0_isColumnInWay_9 : decode cX0_isColumnInWay 9 = .ok (.getfield 24, 3) := by decide +kernel
theorem dX0_isColumnInWay_12 : decode cX0_isColumnInWay 12 = .ok (.iload_n 3, 1) := by decide +kernel
theorem dX0_isColumnInWay_13 : decode cX0_isColumnInWay 13 = .ok (.iaload, 1) := by decide +kernel
theorem dX0_isColumnInWay_14 : decode cX0_isColumnInWay 14 = .ok (.istore 5, 2) := by decide +kernel
theorem dX0_isColumnInWay_16 : decode cX0_isColumnInWay 16 = .ok (.aload_n 0, 1) := by decide +kernel
theorem dX0_isColumnInWay_17 : decode cX0_isColumnInWay 17 = .ok (.getfield 27, 3) := by decide +kernel
theorem dX0_isColumnInWay_20 : decode cX0_isColumnInWay 20 = .ok (.iload_n 3, 1) := by decide +kernel
theorem dX0_isColumnInWay_21 : decode cX0_isColumnInWay 21 = .ok (.iaload, 1) := by decide +kernel
theorem dX0_isColumnInWay_22 : decode cX0_isColumnInWay 22 = .ok (.iload 4, 2) := by decide +kernel
theorem dX0_isColumnInWay_24 : decode cX0_isColumnInWay 24 = .ok (.imul, 1) := by decide +kernel
theorem dX0_isColumnInWay_25 : decode cX0_isColumnInWay 25 = .ok (.aload_n 0, 1) := by decide +kernel
theorem dX0_isColumnInWay_26 : decode cX0_isColumnInWay 26 = .ok (.iload_n 1, 1) := by decide +kernel
theorem dX0_isColumnInWay_27 : decode cX0_isColumnInWay 27 = .ok (.iload_n 2, 1) := by decide +kernel
theorem dX0_isColumnInWay_28 : decode cX0_isColumnInWay 28 = .ok (.invokevirtual 75, 3) := by decide +kernel
theorem dX0_isColumnInWay_31 : decode cX0_isColumnInWay 31 = .ok (.iload 5, 2) := by decide +kernel
theorem dX0_isColumnInWay_33 : decode cX0_isColumnInWay 33 = .ok (.imul, 1) := by decide +kernel
theorem dX0_isColumnInWay_34 : decode cX0_isColumnInWay 34 = .ok (.isub, 1) := by decide +kernel
theorem dX0_isColumnInWay_35 : decode cX0_isColumnInWay 35 = .ok (.istore 6, 2) := by decide +kernel
theorem dX0_isColumnInWay_37 : decode cX0_isColumnInWay 37 = .ok (.iload 5, 2) := by decide +kernel
theorem dX0_isColumnInWay_39 : decode cX0_isColumnInWay 39 = .ok (.iload 4, 2) := by decide +kernel
theorem dX0_isColumnInWay_41 : decode cX0_isColumnInWay 41 = .ok (.if_icmp .ge 24, 3) := by decide +kernel
theorem dX0_isColumnInWay_44 : decode cX0_isColumnInWay 44 = .ok (.iload 6, 2) := by decide +kernel
theorem dX0_isColumnInWay_46 : decode cX0_isColumnInWay 46 = .ok (.invokestatic 78, 3) := by decide +kernel
theorem dX0_isColumnInWay_49 : decode cX0_isColumnInWay 49 = .ok (.aload_n 0, 1) := by decide +kernel
theorem dX0_isColumnInWay_50 : decode cX0_isColumnInWay 50 = .ok (.getfield 30, 3) := by decide +kernel
theorem dX0_isColumnInWay_53 : decode cX0_isColumnInWay 53 = .ok (.iload_n 3, 1) := by decide +kernel
theorem dX0_isColumnInWay_54 : decode cX0_isColumnInWay 54 = .ok (.iaload, 1) := by decide +kernel
theorem dX0_isColumnInWay_55 : decode cX0_isColumnInWay 55 = .ok (.iload 4, 2) := by decide +kernel
theorem dX0_isColumnInWay_57 : decode cX0_isColumnInWay 57 = .ok (.imul, 1) := by decide +kernel
theorem dX0_isColumnInWay_58 : decode cX0_isColumnInWay 58 = .ok (.if_icmp .gt 7, 3) := by decide +kernel
theorem dX0_isColumnInWay_61 : decode cX0_isColumnInWay 61 = .ok (.iconst 1, 1) := by decide +kernel
theorem dX0_isColumnInWay_62 : decode cX0_isColumnInWay 62 = .ok (.goto 4, 3) := by decide +kernel
theorem dX0_isColumnInWay_65 : decode cX0_isColumnInWay 65 = .ok (.iconst 0, 1) := by decide +kernel
theorem dX0_isColumnInWay_66 : decode cX0_isColumnInWay 66 = .ok (.ireturn, 1) := by decide +kernel
set_option maxRecDepth 20000 in
theorem ggX0_peopleInWay_X0_isTaken : GoodIn wsX0_peopleInWay wsX0_isTaken := goodIn_r _ [6, 7, 31, 32, 33, 34, 35, 36, 37, 38, 39, 40] (by decide +kernel) (by decide +kernel)
set_option maxRecDepth 20000 in
theorem gX0_peopleInWay_X0_isTaken : GoodIn wsX0_peopleInWay (wsV RX0 66 RX0 yX0_isTaken wsX0_isTaken) := goodIn_app (goodIn_of _ (by decide +kernel)) ggX0_peopleInWay_X0_isTaken
set_option maxRecDepth 20000 in
theorem ggX0_peopleInWay_X0_isHeadInWay : GoodIn wsX0_peopleInWay wsX0_isHeadInWay := goodIn_r _ [11, 12, 13, 14, 15, 16, 17, 18, 19, 5, 20, 1, 21, 22, 23, 24, 25, 26, 27, 28, 29, 30, 31, 32, 33, 34, 35, 36, 37, 38, 39, 40] (by decide +kernel) (by decide +kernel)
set_option maxRecDepth 20000 in
theorem gX0_peopleInWay_X0_isHeadInWay : GoodIn wsX0_peopleInWay (wsV RX0 87 RX0 yX0_isHeadInWay wsX0_isHeadInWay) := goodIn_app (goodIn_of _ (by decide +kernel)) ggX0_peopleInWay_X0_isHeadInWay
theorem dX0_peopleInWay_0 : decode cX0_peopleInWay 0 = .ok (.iconst 0, 1) := by decide +kernel
theorem dX0_peopleInWay_1 : decode cX0_peopleInWay 1 = .ok (.istore_n 3, 1) := by decide +kernel
theorem dX0_peopleInWay_2 : decode cX0_peopleInWay 2 = .ok (.iconst 0, 1) := by decide +kernel
theorem dX0_peopleInWay_3 : decode cX0_peopleInWay 3 = .ok (.istore 4, 2) := by decide +kernel
theorem dX0_peopleInWay_5 : decode cX0_peopleInWay 5 = .ok (.iload 4, 2) := by decide +kernel
theorem dX0_peopleInWay_7 : decode cX0_peopleInWay 7 = .ok (.iload_n 1, 1) := by decide +kernel
theorem dX0_peopleInWay_8 : decode cX0_peopleInWay 8 = .ok (.if_icmp .ge 57, 3) := by decide +kernel
theorem dX0_peopleInWay_11 : decode cX0_peopleInWay 11 = .ok (.iconst 0, 1) := by decide +kernel
theorem dX0_peopleInWay_12 : decode cX0_peopleInWay 12 = .ok (.istore 5, 2) := by decide +kernel
theorem dX0_peopleInWay_14 : decode cX0_peopleInWay 14 = .ok (.iload 5, 2) := by decide +kernel
theorem dX0_peopleInWay_16 : decode cX0_peopleInWay 16 = .ok (.aload_n 0, 1) := by decide +kernel
theorem dX0_peopleInWay_17 : decode cX0_peopleInWay 17 = .ok (.getfield 18, 3) := by decide +kernel
theorem dX0_peopleInWay_20 : decode cX0_peopleInWay 20 = .ok (.iload 4, 2) := by decide +kernel
theorem dX0_peopleInWay_22 : decode cX0_peopleInWay 22 = .ok (.iaload, 1) := by decide +kernel
theorem dX0_peopleInWay_23 : decode cX0_peopleInWay 23 = .ok (.if_icmp .ge 36, 3) := by decide +kernel
theorem dX0_peopleInWay_26 : decode cX0_peopleInWay 26 = .ok (.aload_n 0, 1) := by decide +kernel
theorem dX0_peopleInWay_27 : decode cX0_peopleInWay 27 = .ok (.iload 4, 2) := by decide +kernel
theorem dX0_peopleInWay_29 : decode cX0_peopleInWay 29 = .ok (.iload 5, 2) := by decide +kernel
theorem dX0_peopleInWay_31 : decode cX0_peopleInWay 31 = .ok (.invokevirtual 66, 3) := by decide +kernel
theorem dX0_peopleInWay_34 : decode cX0_peopleInWay 34 = .ok (.ifCond .eq 19, 3) := by decide +kernel
theorem dX0_peopleInWay_37 : decode cX0_peopleInWay 37 = .ok (.aload_n 0, 1) := by decide +kernel
theorem dX0_peopleInWay_38 : decode cX0_peopleInWay 38 = .ok (.iload_n 1, 1) := by decide +kernel
theorem dX0_peopleInWay_39 : decode cX0_peopleInWay 39 = .ok (.iload_n 2, 1) := by decide +kernel
theorem dX0_peopleInWay_40 : decode cX0_peopleInWay 40 = .ok (.iload 4, 2) := by decide +kernel
theorem dX0_peopleInWay_42 : decode cX0_peopleInWay 42 = .ok (.iload 5, 2) := by decide +kernel
theorem dX0_peopleInWay_44 : decode cX0_peopleInWay 44 = .ok (.invokevirtual 87, 3) := by decide +kernel
theorem dX0_peopleInWay_47 : decode cX0_peopleInWay 47 = .ok (.ifCond .eq 6, 3) := by decide +kernel
theorem dX0_peopleInWay_50 : decode cX0_peopleInWay 50 = .ok (.iinc 3 1, 3) := by decide +kernel
theorem dX0_peopleInWay_53 : decode cX0_peopleInWay 53 = .ok (.iinc 5 1, 3) := by decide +kernel
theorem dX0_peopleInWay_56 : decode cX0_peopleInWay 56 = .ok (.goto (-42), 3) := by decide +kernel
theorem dX0_peopleInWay_59 : decode cX0_peopleInWay 59 = .ok (.iinc 4 1, 3) := by decide +kernel
theorem dX0_peopleInWay_62 : decode cX0_peopleInWay 62 = .ok (.goto (-57), 3) := by decide +kernel
theorem dX0_peopleInWay_65 : decode cX0_peopleInWay 65 = .ok (.iload_n 3, 1) := by decide +kernel
theorem dX0_peopleInWay_66 : decode cX0_peopleInWay 66 = .ok (.ireturn, 1) := by decide +kernel
set_option maxRecDepth 20000 in
theorem ggX0_columnsInWay_X0_isColumnInWay : GoodIn wsX0_columnsInWay wsX0_isColumnInWay := goodIn_r _ [6, 7, 8, 9, 10, 11, 12, 13, 14, 15, 16, 17, 5, 18, 19, 20, 21, 22, 23, 24, 25, 26, 27, 28, 29] (by decide +kernel) (by decide +kernel)
set_option maxRecDepth 20000 in
theorem gX0_columnsInWay_X0_isColumnInWay : GoodIn wsX0_columnsInWay (wsV RX0 91 RX0 yX0_isColumnInWay wsX0_isColumnInWay) := goodIn_app (goodIn_of _ (by decide +kernel)) ggX0_columnsInWay_X0_isColumnInWay
theorem dX0_columnsInWay_0 : decode cX0_columnsInWay 0 = .ok (.iconst 0, 1) := by decide +kernel
theorem dX0_columnsInWay_1 : decode cX0_columnsInWay 1 = .ok (.istore_n 3, 1) := by decide +kernel
theorem dX0_columnsInWay_2 : decode cX0_columnsInWay 2 = .ok (.iconst 0, 1) := by decide +kernel
theorem dX0_columnsInWay_3 : decode cX0_columnsInWay 3 = .ok (.istore 4, 2) := by decide +kernel
theorem dX0_columnsInWay_5 : decode cX0_columnsInWay 5 = .ok (.iload 4, 2) := by decide +kernel
theorem dX0_columnsInWay_7 : decode cX0_columnsInWay 7 = .ok (.aload_n 0, 1) := by decide +kernel
theorem dX0_columnsInWay_8 : decode cX0_columnsInWay 8 = .ok (.getfield 46, 3) := by decide +kernel
theorem dX0_columnsInWay_11 : decode cX0_columnsInWay 11 = .ok (.if_icmp .ge 23, 3) := by decide +kernel
theorem dX0_columnsInWay_14 : decode cX0_columnsInWay 14 = .ok (.aload_n 0, 1) := by decide +kernel
theorem dX0_columnsInWay_15 : decode cX0_columnsInWay 15 = .ok (.iload_n 1, 1) := by decide +kernel
theorem dX0_columnsInWay_16 : decode cX0_columnsInWay 16 = .ok (.iload_n 2, 1) := by decide +kernel
theorem dX0_columnsInWay_17 : decode cX0_columnsInWay 17 = .ok (.iload 4, 2) := by decide +kernel
theorem dX0_columnsInWay_19 : decode cX0_columnsInWay 19 = .ok (.invokevirtual 91, 3) := by decide +kernel
theorem dX0_columnsInWay_22 : decode cX0_columnsInWay 22 = .ok (.ifCond .eq 6, 3) := by decide +kernel
theorem dX0_columnsInWay_25 : decode cX0_columnsInWay 25 = .ok (.iinc 3 1, 3) := by decide +kernel
theorem dX0_columnsInWay_28 : decode cX0_columnsInWay 28 = .ok (.iinc 4 1, 3) := by decide +kernel
theorem dX0_columnsInWay_31 : decode cX0_columnsInWay 31 = .ok (.goto (-26), 3) := by decide +kernel
theorem dX0_columnsInWay_34 : decode cX0_columnsInWay 34 = .ok (.iload_n 3, 1) := by decide +kernel
theorem dX0_columnsInWay_35 : decode cX0_columnsInWay 35 = .ok (.ireturn, 1) := by decide +kernel
set_option maxRecDepth 20000 in
theorem ggX0_nearestInWay_X0_isTaken : GoodIn wsX0_nearestInWay wsX0_isTaken := goodIn_r _ [6, 7, 31, 32, 33, 34, 35, 36, 37, 38, 39, 40] (by decide +kernel) (by decide +kernel)
set_option maxRecDepth 20000 in
theorem gX0_nearestInWay_X0_isTaken : GoodIn wsX0_nearestInWay (wsV RX0 66 RX0 yX0_isTaken wsX0_isTaken) := goodIn_app (goodIn_of _ (by decide +kernel)) ggX0_nearestInWay_X0_isTaken
set_option maxRecDepth 20000 in
theorem ggX0_nearestInWay_X0_isHeadInWay : GoodIn wsX0_nearestInWay wsX0_isHeadInWay := goodIn_r _ [11, 12, 13, 14, 15, 16, 17, 18, 19, 5, 20, 1, 21, 22, 23, 24, 25, 26, 27, 28, 29, 30, 31, 32, 33, 34, 35, 36, 37, 38, 39, 40] (by decide +kernel) (by decide +kernel)
set_option maxRecDepth 20000 in
theorem gX0_nearestInWay_X0_isHeadInWay : GoodIn wsX0_nearestInWay (wsV RX0 87 RX0 yX0_isHeadInWay wsX0_isHeadInWay) := goodIn_app (goodIn_of _ (by decide +kernel)) ggX0_nearestInWay_X0_isHeadInWay
theorem dX0_nearestInWay_0 : decode cX0_nearestInWay 0 = .ok (.iload_n 1, 1) := by decide +kernel
theorem dX0_nearestInWay_1 : decode cX0_nearestInWay 1 = .ok (.iconst 1, 1) := by decide +kernel
theorem dX0_nearestInWay_2 : decode cX0_nearestInWay 2 = .ok (.isub, 1) := by decide +kernel
theorem dX0_nearestInWay_3 : decode cX0_nearestInWay 3 = .ok (.istore_n 3, 1) := by decide +kernel
theorem dX0_nearestInWay_4 : decode cX0_nearestInWay 4 = .ok (.iload_n 3, 1) := by decide +kernel
theorem dX0_nearestInWay_5 : decode cX0_nearestInWay 5 = .ok (.ifCond .lt 59, 3) := by decide +kernel
theorem dX0_nearestInWay_8 : decode cX0_nearestInWay 8 = .ok (.iconst 0, 1) := by decide +kernel
theorem dX0_nearestInWay_9 : decode cX0_nearestInWay 9 = .ok (.istore 4, 2) := by decide +kernel
theorem dX0_nearestInWay_11 : decode cX0_nearestInWay 11 = .ok (.iload 4, 2) := by decide +kernel
theorem dX0_nearestInWay_13 : decode cX0_nearestInWay 13 = .ok (.aload_n 0, 1) := by decide +kernel
theorem dX0_nearestInWay_14 : decode cX0_nearestInWay 14 = .ok (.getfield 18, 3) := by decide +kernel
theorem dX0_nearestInWay_17 : decode cX0_nearestInWay 17 = .ok (.iload_n 3, 1) := by decide +kernel
theorem dX0_nearestInWay_18 : decode cX0_nearestInWay 18 = .ok (.iaload, 1) := by decide +kernel
theorem dX0_nearestInWay_19 : decode cX0_nearestInWay 19 = .ok (.if_icmp .ge 39, 3) := by decide +kernel
theorem dX0_nearestInWay_22 : decode cX0_nearestInWay 22 = .ok (.aload_n 0, 1) := by decide +kernel
theorem dX0_nearestInWay_23 : decode cX0_nearestInWay 23 = .ok (.iload_n 3, 1) := by decide +kernel
theorem dX0_nearestInWay_24 : decode cX0_nearestInWay 24 = .ok (.iload 4, 2) := by decide +kernel
theorem dX0_nearestInWay_26 : decode cX0_nearestInWay 26 = .ok (.invokevirtual 66, 3) := by decide +kernel
theorem dX0_nearestInWay_29 : decode cX0_nearestInWay 29 = .ok (.ifCond .eq 23, 3) := by decide +kernel
theorem dX0_nearestInWay_32 : decode cX0_nearestInWay 32 = .ok (.aload_n 0, 1) := by decide +kernel
theorem dX0_nearestInWay_33 : decode cX0_nearestInWay 33 = .ok (.iload_n 1, 1) := by decide +kernel
theorem dX0_nearestInWay_34 : decode cX0_nearestInWay 34 = .ok (.iload_n 2, 1) := by decide +kernel
theorem dX0_nearestInWay_35 : decode cX0_nearestInWay 35 = .ok (.iload_n 3, 1) := by decide +kernel
theorem dX0_nearestInWay_36 : decode cX0_nearestInWay 36 = .ok (.iload 4, 2) := by decide +kernel
theorem dX0_nearestInWay_38 : decode cX0_nearestInWay 38 = .ok (.invokevirtual 87, 3) := by decide +kernel
theorem dX0_nearestInWay_41 : decode cX0_nearestInWay 41 = .ok (.ifCond .eq 11, 3) := by decide +kernel
theorem dX0_nearestInWay_44 : decode cX0_nearestInWay 44 = .ok (.bipush 100, 2) := by decide +kernel
theorem dX0_nearestInWay_46 : decode cX0_nearestInWay 46 = .ok (.iload_n 3, 1) := by decide +kernel
theorem dX0_nearestInWay_47 : decode cX0_nearestInWay 47 = .ok (.imul, 1) := by decide +kernel
theorem dX0_nearestInWay_48 : decode cX0_nearestInWay 48 = .ok (.iload 4, 2) := by decide +kernel
theorem dX0_nearestInWay_50 : decode cX0_nearestInWay 50 = .ok (.iadd, 1) := by decide +kernel
theorem dX0_nearestInWay_51 : decode cX0_nearestInWay 51 = .ok (.ireturn, 1) := by decide +kernel
theorem dX0_nearestInWay_52 : decode cX0_nearestInWay 52 = .ok (.iinc 4 1, 3) := by decide +kernel
theorem dX0_nearestInWay_55 : decode cX0_nearestInWay 55 = .ok (.goto (-44), 3) := by decide +kernel
theorem dX0_nearestInWay_58 : decode cX0_nearestInWay 58 = .ok (.iinc 3 (-1), 3) := by decide +kernel
theorem dX0_nearestInWay_61 : decode cX0_nearestInWay 61 = .ok (.goto (-57), 3) := by decide +kernel
theorem dX0_nearestInWay_64 : decode cX0_nearestInWay 64 = .ok (.iconst (-1), 1) := by decide +kernel
theorem dX0_nearestInWay_65 : decode cX0_nearestInWay 65 = .ok (.ireturn, 1) := by decide +kernel
set_option maxRecDepth 20000 in
theorem ggX0_takenBehind_X0_isTaken : GoodIn wsX0_takenBehind wsX0_isTaken := goodIn_r _ [7, 8, 32, 33, 34, 35, 36, 37, 38, 39, 40, 41] (by decide +kernel) (by decide +kernel)
set_option maxRecDepth 20000 in
theorem gX0_takenBehind_X0_isTaken : GoodIn wsX0_takenBehind (wsV RX0 66 RX0 yX0_isTaken wsX0_isTaken) := goodIn_app (goodIn_of _ (by decide +kernel)) ggX0_takenBehind_X0_isTaken
set_option maxRecDepth 20000 in
theorem ggX0_takenBehind_X0_isHeadInWay : GoodIn wsX0_takenBehind wsX0_isHeadInWay := goodIn_r _ [12, 13, 14, 15, 16, 17, 18, 19, 20, 6, 21, 2, 22, 23, 24, 25, 26, 27, 28, 29, 30, 31, 32, 33, 34, 35, 36, 37, 38, 39, 40, 41] (by decide +kernel) (by decide +kernel)
set_option maxRecDepth 20000 in
theorem gX0_takenBehind_X0_isHeadInWay : GoodIn wsX0_takenBehind (wsV RX0 87 RX0 yX0_isHeadInWay wsX0_isHeadInWay) := goodIn_app (goodIn_of _ (by decide +kernel)) ggX0_takenBehind_X0_isHeadInWay
theorem dX0_takenBehind_0 : decode cX0_takenBehind 0 = .ok (.iconst 0, 1) := by decide +kernel
theorem dX0_takenBehind_1 : decode cX0_takenBehind 1 = .ok (.istore_n 3, 1) := by decide +kernel
theorem dX0_takenBehind_2 : decode cX0_takenBehind 2 = .ok (.iload_n 1, 1) := by decide +kernel
theorem dX0_takenBehind_3 : decode cX0_takenBehind 3 = .ok (.iconst 1, 1) := by decide +kernel
theorem dX0_takenBehind_4 : decode cX0_takenBehind 4 = .ok (.iadd, 1) := by decide +kernel
theorem dX0_takenBehind_5 : decode cX0_takenBehind 5 = .ok (.istore 4, 2) := by decide +kernel
theorem dX0_takenBehind_7 : decode cX0_takenBehind 7 = .ok (.iload 4, 2) := by decide +kernel
theorem dX0_takenBehind_9 : decode cX0_takenBehind 9 = .ok (.aload_n 0, 1) := by decide +kernel
theorem dX0_takenBehind_10 : decode cX0_takenBehind 10 = .ok (.getfield 36, 3) := by decide +kernel
theorem dX0_takenBehind_13 : decode cX0_takenBehind 13 = .ok (.if_icmp .ge 57, 3) := by decide +kernel
theorem dX0_takenBehind_16 : decode cX0_takenBehind 16 = .ok (.iconst 0, 1) := by decide +kernel
theorem dX0_takenBehind_17 : decode cX0_takenBehind 17 = .ok (.istore 5, 2) := by decide +kernel
theorem dX0_takenBehind_19 : decode cX0_takenBehind 19 = .ok (.iload 5, 2) := by decide +kernel
theorem dX0_takenBehind_21 : decode cX0_takenBehind 21 = .ok (.aload_n 0, 1) := by decide +kernel
theorem dX0_takenBehind_22 : decode cX0_takenBehind 22 = .ok (.getfield 18, 3) := by decide +kernel
theorem dX0_takenBehind_25 : decode cX0_takenBehind 25 = .ok (.iload 4, 2) := by decide +kernel
theorem dX0_takenBehind_27 : decode cX0_takenBehind 27 = .ok (.iaload, 1) := by decide +kernel
theorem dX0_takenBehind_28 : decode cX0_takenBehind 28 = .ok (.if_icmp .ge 36, 3) := by decide +kernel
theorem dX0_takenBehind_31 : decode cX0_takenBehind 31 = .ok (.aload_n 0, 1) := by decide +kernel
theorem dX0_takenBehind_32 : decode cX0_takenBehind 32 = .ok (.iload 4, 2) := by decide +kernel
theorem dX0_takenBehind_34 : decode cX0_takenBehind 34 = .ok (.iload 5, 2) := by decide +kernel
theorem dX0_takenBehind_36 : decode cX0_takenBehind 36 = .ok (.invokevirtual 66, 3) := by decide +kernel
theorem dX0_takenBehind_39 : decode cX0_takenBehind 39 = .ok (.ifCond .eq 19, 3) := by decide +kernel
theorem dX0_takenBehind_42 : decode cX0_takenBehind 42 = .ok (.aload_n 0, 1) := by decide +kernel
theorem dX0_takenBehind_43 : decode cX0_takenBehind 43 = .ok (.iload 4, 2) := by decide +kernel
theorem dX0_takenBehind_45 : decode cX0_takenBehind 45 = .ok (.iload 5, 2) := by decide +kernel
theorem dX0_takenBehind_47 : decode cX0_takenBehind 47 = .ok (.iload_n 1, 1) := by decide +kernel
theorem dX0_takenBehind_48 : decode cX0_takenBehind 48 = .ok (.iload_n 2, 1) := by decide +kernel
theorem dX0_takenBehind_49 : decode cX0_takenBehind 49 = .ok (.invokevirtual 87, 3) := by decide +kernel
theorem dX0_takenBehind_52 : decode cX0_takenBehind 52 = .ok (.ifCond .eq 6, 3) := by decide +kernel
theorem dX0_takenBehind_55 : decode cX0_takenBehind 55 = .ok (.iinc 3 1, 3) := by decide +kernel
theorem dX0_takenBehind_58 : decode cX0_takenBehind 58 = .ok (.iinc 5 1, 3) := by decide +kernel
theorem dX0_takenBehind_61 : decode cX0_takenBehind 61 = .ok (.goto (-42), 3) := by decide +kernel
theorem dX0_takenBehind_64 : decode cX0_takenBehind 64 = .ok (.iinc 4 1, 3) := by decide +kernel
theorem dX0_takenBehind_67 : decode cX0_takenBehind 67 = .ok (.goto (-60), 3) := by decide +kernel
theorem dX0_takenBehind_70 : decode cX0_takenBehind 70 = .ok (.iload_n 3, 1) := by decide +kernel
theorem dX0_takenBehind_71 : decode cX0_takenBehind 71 = .ok (.ireturn, 1) := by decide +kernel
set_option maxRecDepth 20000 in
theorem ggX0_seatsBehindColumn_X0_isColumnInWay : GoodIn wsX0_seatsBehindColumn wsX0_isColumnInWay := goodIn_r _ [7, 8, 9, 10, 11, 12, 13, 14, 15, 16, 17, 18, 6, 19, 2, 20, 21, 22, 23, 24, 25, 26, 27, 28, 29] (by decide +kernel) (by decide +kernel)
set_option maxRecDepth 20000 in
theorem gX0_seatsBehindColumn_X0_isColumnInWay : GoodIn wsX0_seatsBehindColumn (wsV RX0 91 RX0 yX0_isColumnInWay wsX0_isColumnInWay) := goodIn_app (goodIn_of _ (by decide +kernel)) ggX0_seatsBehindColumn_X0_isColumnInWay
theorem dX0_seatsBehindColumn_0 : decode cX0_seatsBehindColumn 0 = .ok (.iconst 0, 1) := by decide +kernel
theorem dX0_seatsBehindColumn_1 : decode cX0_seatsBehindColumn 1 = .ok (.istore_n 2, 1) := by decide +kernel
theorem dX0_seatsBehindColumn_2 : decode cX0_seatsBehindColumn 2 = .ok (.iconst 0, 1) := by decide +kernel
theorem dX0_seatsBehindColumn_3 : decode cX0_seatsBehindColumn 3 = .ok (.istore_n 3, 1) := by decide +kernel
theorem dX0_seatsBehindColumn_4 : decode cX0_seatsBehindColumn 4 = .ok (.iload_n 3, 1) := by decide +kernel
theorem dX0_seatsBehindColumn_5 : decode cX0_seatsBehindColumn 5 = .ok (.aload_n 0, 1) := by decide +kernel
theorem dX0_seatsBehindColumn_6 : decode cX0_seatsBehindColumn 6 = .ok (.getfield 36, 3) := by decide +kernel
theorem dX0_seatsBehindColumn_9 : decode cX0_seatsBehindColumn 9 = .ok (.if_icmp .ge 43, 3) := by decide +kernel
theorem dX0_seatsBehindColumn_12 : decode cX0_seatsBehindColumn 12 = .ok (.iconst 0, 1) := by decide +kernel
theorem dX0_seatsBehindColumn_13 : decode cX0_seatsBehindColumn 13 = .ok (.istore 4, 2) := by decide +kernel
theorem dX0_seatsBehindColumn_15 : decode cX0_seatsBehindColumn 15 = .ok (.iload 4, 2) := by decide +kernel
theorem dX0_seatsBehindColumn_17 : decode cX0_seatsBehindColumn 17 = .ok (.aload_n 0, 1) := by decide +kernel
theorem dX0_seatsBehindColumn_18 : decode cX0_seatsBehindColumn 18 = .ok (.getfield 18, 3) := by decide +kernel
theorem dX0_seatsBehindColumn_21 : decode cX0_seatsBehindColumn 21 = .ok (.iload_n 3, 1) := by decide +kernel
theorem dX0_seatsBehindColumn_22 : decode cX0_seatsBehindColumn 22 = .ok (.iaload, 1) := by decide +kernel
theorem dX0_seatsBehindColumn_23 : decode cX0_seatsBehindColumn 23 = .ok (.if_icmp .ge 23, 3) := by decide +kernel
theorem dX0_seatsBehindColumn_26 : decode cX0_seatsBehindColumn 26 = .ok (.aload_n 0, 1) := by decide +kernel
theorem dX0_seatsBehindColumn_27 : decode cX0_seatsBehindColumn 27 = .ok (.iload_n 3, 1) := by decide +kernel
theorem dX0_seatsBehindColumn_28 : decode cX0_seatsBehindColumn 28 = .ok (.iload 4, 2) := by decide +kernel
theorem dX0_seatsBehindColumn_30 : decode cX0_seatsBehindColumn 30 = .ok (.iload_n 1, 1) := by decide +kernel
theorem dX0_seatsBehindColumn_31 : decode cX0_seatsBehindColumn 31 = .ok (.invokevirtual 91, 3) := by decide +kernel
theorem dX0_seatsBehindColumn_34 : decode cX0_seatsBehindColumn 34 = .ok (.ifCond .eq 6, 3) := by decide +kernel
theorem dX0_seatsBehindColumn_37 : decode cX0_seatsBehindColumn 37 = .ok (.iinc 2 1, 3) := by decide +kernel
theorem dX0_seatsBehindColumn_40 : decode cX0_seatsBehindColumn 40 = .ok (.iinc 4 1, 3) := by decide +kernel
theorem dX0_seatsBehindColumn_43 : decode cX0_seatsBehindColumn 43 = .ok (.goto (-28), 3) := by decide +kernel
theorem dX0_seatsBehindColumn_46 : decode cX0_seatsBehindColumn 46 = .ok (.iinc 3 1, 3) := by decide +kernel
theorem dX0_seatsBehindColumn_49 : decode cX0_seatsBehindColumn 49 = .ok (.goto (-45), 3) := by decide +kernel
theorem dX0_seatsBehindColumn_52 : decode cX0_seatsBehindColumn 52 = .ok (.iload_n 2, 1) := by decide +kernel
theorem dX0_seatsBehindColumn_53 : decode cX0_seatsBehindColumn 53 = .ok (.ireturn, 1) := by decide +kernel
set_option maxRecDepth 20000 in
theorem ggX0_lowestHeight_X0_heightToSeeOver : GoodIn wsX0_lowestHeight wsX0_heightToSeeOver := goodIn_r _ [9, 10, 1, 2, 3, 4, 11, 12, 13, 14, 8, 15, 16, 17, 18, 19, 20, 21, 22, 23, 24, 25, 26, 27, 28, 29, 30] (by decide +kernel) (by decide +kernel)
set_option maxRecDepth 20000 in
theorem gX0_lowestHeight_X0_heightToSeeOver : GoodIn wsX0_lowestHeight (wsV RX0 95 RX0 yX0_heightToSeeOver wsX0_heightToSeeOver) := goodIn_app (goodIn_of _ (by decide +kernel)) ggX0_lowestHeight_X0_heightToSeeOver
theorem dX0_lowestHeight_0 : decode cX0_lowestHeight 0 = .ok (.iconst 0, 1) := by decide +kernel
theorem dX0_lowestHeight_1 : decode cX0_lowestHeight 1 = .ok (.istore_n 2, 1) := by decide +kernel
theorem dX0_lowestHeight_2 : decode cX0_lowestHeight 2 = .ok (.iconst 0, 1) := by decide +kernel
theorem dX0_lowestHeight_3 : decode cX0_lowestHeight 3 = .ok (.istore_n 3, 1) := by decide +kernel
theorem dX0_lowestHeight_4 : decode cX0_lowestHeight 4 = .ok (.iload_n 3, 1) := by decide +kernel
theorem dX0_lowestHeight_5 : decode cX0_lowestHeight 5 = .ok (.iload_n 1, 1) := by decide +kernel
theorem dX0_lowestHeight_6 : decode cX0_lowestHeight 6 = .ok (.if_icmp .ge 20, 3) := by decide +kernel
theorem dX0_lowestHeight_9 : decode cX0_lowestHeight 9 = .ok (.iload_n 2, 1) := by decide +kernel
theorem dX0_lowestHeight_10 : decode cX0_lowestHeight 10 = .ok (.aload_n 0, 1) := by decide +kernel
theorem dX0_lowestHeight_11 : decode cX0_lowestHeight 11 = .ok (.iload_n 1, 1) := by decide +kernel
theorem dX0_lowestHeight_12 : decode cX0_lowestHeight 12 = .ok (.iload_n 3, 1) := by decide +kernel
theorem dX0_lowestHeight_13 : decode cX0_lowestHeight 13 = .ok (.invokevirtual 95, 3) := by decide +kernel
theorem dX0_lowestHeight_16 : decode cX0_lowestHeight 16 = .ok (.invokestatic 70, 3) := by decide +kernel
theorem dX0_lowestHeight_19 : decode cX0_lowestHeight 19 = .ok (.istore_n 2, 1) := by decide +kernel
theorem dX0_lowestHeight_20 : decode cX0_lowestHeight 20 = .ok (.iinc 3 1, 3) := by decide +kernel
theorem dX0_lowestHeight_23 : decode cX0_lowestHeight 23 = .ok (.goto (-19), 3) := by decide +kernel
theorem dX0_lowestHeight_26 : decode cX0_lowestHeight 26 = .ok (.iload_n 2, 1) := by decide +kernel
theorem dX0_lowestHeight_27 : decode cX0_lowestHeight 27 = .ok (.ireturn, 1) := by decide +kernel
set_option maxRecDepth 20000 in
theorem ggX0_heightToSeeOver_X0_headOverPoint : GoodIn wsX0_heightToSeeOver wsX0_headOverPoint := goodIn_r _ [11, 12, 6, 17, 18, 19, 20, 21, 22, 23, 24, 25, 26] (by decide +kernel) (by decide +kernel)
set_option maxRecDepth 20000 in
theorem gX0_heightToSeeOver_X0_headOverPoint : GoodIn wsX0_heightToSeeOver (wsV RX0 81 RX0 yX0_headOverPoint wsX0_headOverPoint) := goodIn_app (goodIn_of _ (by decide +kernel)) ggX0_heightToSeeOver_X0_headOverPoint
set_option maxRecDepth 20000 in
theorem ggX0_heightToSeeOver_J9_floorDiv_7cf53 : GoodIn wsX0_heightToSeeOver wsJ9_floorDiv_7cf53 := goodIn_r _ [16] (by decide +kernel) (by decide +kernel)
set_option maxRecDepth 20000 in
theorem gX0_heightToSeeOver_J9_floorDiv_7cf53 : GoodIn wsX0_heightToSeeOver (va_wsS RX0 98 yJ9_floorDiv_7cf53 wsJ9_floorDiv_7cf53) := goodIn_app (goodIn_of _ (by decide +kernel)) ggX0_heightToSeeOver_J9_floorDiv_7cf53
theorem dX0_heightToSeeOver_0 : decode cX0_heightToSeeOver 0 = .ok (.iconst 1, 1) := by decide +kernel
theorem dX0_heightToSeeOver_1 : decode cX0_heightToSeeOver 1 = .ok (.aload_n 0, 1) := by decide +kernel
theorem dX0_heightToSeeOver_2 : decode cX0_heightToSeeOver 2 = .ok (.getfield 9, 3) := by decide +kernel
theorem dX0_heightToSeeOver_5 : decode cX0_heightToSeeOver 5 = .ok (.iload_n 2, 1) := by decide +kernel
theorem dX0_heightToSeeOver_6 : decode cX0_heightToSeeOver 6 = .ok (.iaload, 1) := by decide +kernel
theorem dX0_heightToSeeOver_7 : decode cX0_heightToSeeOver 7 = .ok (.invokestatic 70, 3) := by decide +kernel
theorem dX0_heightToSeeOver_10 : decode cX0_heightToSeeOver 10 = .ok (.istore_n 3, 1) := by decide +kernel
theorem dX0_heightToSeeOver_11 : decode cX0_heightToSeeOver 11 = .ok (.aload_n 0, 1) := by decide +kernel
theorem dX0_heightToSeeOver_12 : decode cX0_heightToSeeOver 12 = .ok (.iload_n 2, 1) := by decide +kernel
theorem dX0_heightToSeeOver_13 : decode cX0_heightToSeeOver 13 = .ok (.invokevirtual 81, 3) := by decide +kernel
theorem dX0_heightToSeeOver_16 : decode cX0_heightToSeeOver 16 = .ok (.ineg, 1) := by decide +kernel
theorem dX0_heightToSeeOver_17 : decode cX0_heightToSeeOver 17 = .ok (.aload_n 0, 1) := by decide +kernel
theorem dX0_heightToSeeOver_18 : decode cX0_heightToSeeOver 18 = .ok (.getfield 9, 3) := by decide +kernel
theorem dX0_heightToSeeOver_21 : decode cX0_heightToSeeOver 21 = .ok (.iload_n 1, 1) := by decide +kernel
theorem dX0_heightToSeeOver_22 : decode cX0_heightToSeeOver 22 = .ok (.iaload, 1) := by decide +kernel
theorem dX0_heightToSeeOver_23 : decode cX0_heightToSeeOver 23 = .ok (.imul, 1) := by decide +kernel
theorem dX0_heightToSeeOver_24 : decode cX0_heightToSeeOver 24 = .ok (.iload_n 3, 1) := by decide +kernel
theorem dX0_heightToSeeOver_25 : decode cX0_heightToSeeOver 25 = .ok (.invokestatic 98, 3) := by decide +kernel
theorem dX0_heightToSeeOver_28 : decode cX0_heightToSeeOver 28 = .ok (.ineg, 1) := by decide +kernel
theorem dX0_heightToSeeOver_29 : decode cX0_heightToSeeOver 29 = .ok (.istore 4, 2) := by decide +kernel
theorem dX0_heightToSeeOver_31 : decode cX0_heightToSeeOver 31 = .ok (.iload 4, 2) := by decide +kernel
theorem dX0_heightToSeeOver_33 : decode cX0_heightToSeeOver 33 = .ok (.aload_n 0, 1) := by decide +kernel
theorem dX0_heightToSeeOver_34 : decode cX0_heightToSeeOver 34 = .ok (.getfield 33, 3) := by decide +kernel
theorem dX0_heightToSeeOver_37 : decode cX0_heightToSeeOver 37 = .ok (.iconst 1, 1) := by decide +kernel
theorem dX0_heightToSeeOver_38 : decode cX0_heightToSeeOver 38 = .ok (.iaload, 1) := by decide +kernel
theorem dX0_heightToSeeOver_39 : decode cX0_heightToSeeOver 39 = .ok (.isub, 1) := by decide +kernel
theorem dX0_heightToSeeOver_40 : decode cX0_heightToSeeOver 40 = .ok (.aload_n 0, 1) := by decide +kernel
theorem dX0_heightToSeeOver_41 : decode cX0_heightToSeeOver 41 = .ok (.getfield 33, 3) := by decide +kernel
theorem dX0_heightToSeeOver_44 : decode cX0_heightToSeeOver 44 = .ok (.iconst 0, 1) := by decide +kernel
theorem dX0_heightToSeeOver_45 : decode cX0_heightToSeeOver 45 = .ok (.iaload, 1) := by decide +kernel
theorem dX0_heightToSeeOver_46 : decode cX0_heightToSeeOver 46 = .ok (.iadd, 1) := by decide +kernel
theorem dX0_heightToSeeOver_47 : decode cX0_heightToSeeOver 47 = .ok (.ireturn, 1) := by decide +kernel
set_option maxRecDepth 20000 in
theorem ggX1_init_X0_init : GoodIn wsX1_init wsX0_init := goodIn_r _ [9, 10, 2, 3, 11, 12, 13, 14, 15, 16, 17, 18, 19, 22, 23, 24, 25, 26, 27, 28, 29, 30, 31] (by decide +kernel) (by decide +kernel)
set_option maxRecDepth 20000 in
theorem gX1_init_X0_init_n17 : GoodIn wsX1_init (wsX0_init) := ggX1_init_X0_init
theorem dX1_init_0 : decode cX1_init 0 = .ok (.aload_n 0, 1) := by decide +kernel
theorem dX1_init_1 : decode cX1_init 1 = .ok (.invokespecial 3, 3) := by decide +kernel
theorem dX1_init_4 : decode cX1_init 4 = .ok (.aload_n 0, 1) := by decide +kernel
theorem dX1_init_5 : decode cX1_init 5 = .ok (.bipush 6, 2) := by decide +kernel
theorem dX1_init_7 : decode cX1_init 7 = .ok (.anewarray 9, 3) := by decide +kernel
theorem dX1_init_10 : decode cX1_init 10 = .ok (.putfield 11, 3) := by decide +kernel
theorem dX1_init_13 : decode cX1_init 13 = .ok (.iconst 0, 1) := by decide +kernel
theorem dX1_init_14 : decode cX1_init 14 = .ok (.istore_n 1, 1) := by decide +kernel
theorem dX1_init_15 : decode cX1_init 15 = .ok (.iload_n 1, 1) := by decide +kernel
theorem dX1_init_16 : decode cX1_init 16 = .ok (.bipush 6, 2) := by decide +kernel
theorem dX1_init_18 : decode cX1_init 18 = .ok (.if_icmp .ge 22, 3) := by decide +kernel
theorem dX1_init_21 : decode cX1_init 21 = .ok (.aload_n 0, 1) := by decide +kernel
theorem dX1_init_22 : decode cX1_init 22 = .ok (.getfield 11, 3) := by decide +kernel
theorem dX1_init_25 : decode cX1_init 25 = .ok (.iload_n 1, 1) := by decide +kernel
theorem dX1_init_26 : decode cX1_init 26 = .ok (.new 9, 3) := by decide +kernel
theorem dX1_init_29 : decode cX1_init 29 = .ok (.dup, 1) := by decide +kernel
theorem dX1_init_30 : decode cX1_init 30 = .ok (.invokespecial 17, 3) := by decide +kernel
theorem dX1_init_33 : decode cX1_init 33 = .ok (.aastore, 1) := by decide +kernel
theorem dX1_init_34 : decode cX1_init 34 = .ok (.iinc 1 1, 3) := by decide +kernel
theorem dX1_init_37 : decode cX1_init 37 = .ok (.goto (-22), 3) := by decide +kernel
theorem dX1_init_40 : decode cX1_init 40 = .ok (.return_, 1) := by decide +kernel
set_option maxRecDepth 20000 in
theorem ggX1_keep_X1_dropOldest : GoodIn wsX1_keep wsX1_dropOldest := goodIn_r _ [7, 2, 1, 27, 28] (by decide +kernel) (by decide +kernel)
set_option maxRecDepth 20000 in
theorem gX1_keep_X1_dropOldest : GoodIn wsX1_keep (wsV RX1 22 RX1 yX1_dropOldest wsX1_dropOldest) := goodIn_app (goodIn_of _ (by decide +kernel)) ggX1_keep_X1_dropOldest
set_option maxRecDepth 20000 in
theorem ggX1_keep_X0_copyFrom : GoodIn wsX1_keep wsX0_copyFrom := goodIn_r _ [12, 13, 14, 15, 16, 17, 18, 19, 20, 21, 22, 23, 24, 25, 26, 29, 30, 31, 32, 33, 34, 35, 36, 37, 38] (by decide +kernel) (by decide +kernel)
set_option maxRecDepth 20000 in
theorem gX1_keep_X0_copyFrom : GoodIn wsX1_keep (wsV RX1 25 RX0 yX0_copyFrom wsX0_copyFrom) := goodIn_app (goodIn_of _ (by decide +kernel)) ggX1_keep_X0_copyFrom
theorem dX1_keep_0 : decode cX1_keep 0 = .ok (.aload_n 0, 1) := by decide +kernel
theorem dX1_keep_1 : decode cX1_keep 1 = .ok (.getfield 18, 3) := by decide +kernel
theorem dX1_keep_4 : decode cX1_keep 4 = .ok (.bipush 6, 2) := by decide +kernel
theorem dX1_keep_6 : decode cX1_keep 6 = .ok (.if_icmp .ne 7, 3) := by decide +kernel
theorem dX1_keep_9 : decode cX1_keep 9 = .ok (.aload_n 0, 1) := by decide +kernel
theorem dX1_keep_10 : decode cX1_keep 10 = .ok (.invokevirtual 22, 3) := by decide +kernel
theorem dX1_keep_13 : decode cX1_keep 13 = .ok (.aload_n 0, 1) := by decide +kernel
theorem dX1_keep_14 : decode cX1_keep 14 = .ok (.getfield 11, 3) := by decide +kernel
theorem dX1_keep_17 : decode cX1_keep 17 = .ok (.aload_n 0, 1) := by decide +kernel
theorem dX1_keep_18 : decode cX1_keep 18 = .ok (.getfield 18, 3) := by decide +kernel
theorem dX1_keep_21 : decode cX1_keep 21 = .ok (.aaload, 1) := by decide +kernel
theorem dX1_keep_22 : decode cX1_keep 22 = .ok (.aload_n 1, 1) := by decide +kernel
theorem dX1_keep_23 : decode cX1_keep 23 = .ok (.invokevirtual 25, 3) := by decide +kernel
theorem dX1_keep_26 : decode cX1_keep 26 = .ok (.aload_n 0, 1) := by decide +kernel
theorem dX1_keep_27 : decode cX1_keep 27 = .ok (.dup, 1) := by decide +kernel
theorem dX1_keep_28 : decode cX1_keep 28 = .ok (.getfield 18, 3) := by decide +kernel
theorem dX1_keep_31 : decode cX1_keep 31 = .ok (.iconst 1, 1) := by decide +kernel
theorem dX1_keep_32 : decode cX1_keep 32 = .ok (.iadd, 1) := by decide +kernel
theorem dX1_keep_33 : decode cX1_keep 33 = .ok (.putfield 18, 3) := by decide +kernel
theorem dX1_keep_36 : decode cX1_keep 36 = .ok (.return_, 1) := by decide +kernel
theorem dX1_dropOldest_0 : decode cX1_dropOldest 0 = .ok (.aload_n 0, 1) := by decide +kernel
theorem dX1_dropOldest_1 : decode cX1_dropOldest 1 = .ok (.getfield 11, 3) := by decide +kernel
theorem dX1_dropOldest_4 : decode cX1_dropOldest 4 = .ok (.iconst 0, 1) := by decide +kernel
theorem dX1_dropOldest_5 : decode cX1_dropOldest 5 = .ok (.aaload, 1) := by decide +kernel
theorem dX1_dropOldest_6 : decode cX1_dropOldest 6 = .ok (.astore_n 1, 1) := by decide +kernel
theorem dX1_dropOldest_7 : decode cX1_dropOldest 7 = .ok (.iconst 1, 1) := by decide +kernel
theorem dX1_dropOldest_8 : decode cX1_dropOldest 8 = .ok (.istore_n 2, 1) := by decide +kernel
theorem dX1_dropOldest_9 : decode cX1_dropOldest 9 = .ok (.iload_n 2, 1) := by decide +kernel
theorem dX1_dropOldest_10 : decode cX1_dropOldest 10 = .ok (.bipush 6, 2) := by decide +kernel
theorem dX1_dropOldest_12 : decode cX1_dropOldest 12 = .ok (.if_icmp .ge 23, 3) := by decide +kernel
theorem dX1_dropOldest_15 : decode cX1_dropOldest 15 = .ok (.aload_n 0, 1) := by decide +kernel
theorem dX1_dropOldest_16 : decode cX1_dropOldest 16 = .ok (.getfield 11, 3) := by decide +kernel
theorem dX1_dropOldest_19 : decode cX1_dropOldest 19 = .ok (.iload_n 2, 1) := by decide +kernel
theorem dX1_dropOldest_20 : decode cX1_dropOldest 20 = .ok (.iconst 1, 1) := by decide +kernel
theorem dX1_dropOldest_21 : decode cX1_dropOldest 21 = .ok (.isub, 1) := by decide +kernel
theorem dX1_dropOldest_22 : decode cX1_dropOldest 22 = .ok (.aload_n 0, 1) := by decide +kernel
theorem dX1_dropOldest_23 : decode cX1_dropOldest 23 = .ok (.getfield 11, 3) := by decide +kernel
theorem dX1_dropOldest_26 : decode cX1_dropOldest 26 = .ok (.iload_n 2, 1) := by decide +kernel
theorem dX1_dropOldest_27 : decode cX1_dropOldest 27 = .ok (.aaload, 1) := by decide +kernel
theorem dX1_dropOldest_28 : decode cX1_dropOldest 28 = .ok (.aastore, 1) := by decide +kernel
theorem dX1_dropOldest_29 : decode cX1_dropOldest 29 = .ok (.iinc 2 1, 3) := by decide +kernel
theorem dX1_dropOldest_32 : decode cX1_dropOldest 32 = .ok (.goto (-23), 3) := by decide +kernel
theorem dX1_dropOldest_35 : decode cX1_dropOldest 35 = .ok (.aload_n 0, 1) := by decide +kernel
theorem dX1_dropOldest_36 : decode cX1_dropOldest 36 = .ok (.getfield 11, 3) := by decide +kernel
theorem dX1_dropOldest_39 : decode cX1_dropOldest 39 = .ok (.iconst 5, 1) := by decide +kernel
theorem dX1_dropOldest_40 : decode cX1_dropOldest 40 = .ok (.aload_n 1, 1) := by decide +kernel
theorem dX1_dropOldest_41 : decode cX1_dropOldest 41 = .ok (.aastore, 1) := by decide +kernel
theorem dX1_dropOldest_42 : decode cX1_dropOldest 42 = .ok (.aload_n 0, 1) := by decide +kernel
theorem dX1_dropOldest_43 : decode cX1_dropOldest 43 = .ok (.dup, 1) := by decide +kernel
theorem dX1_dropOldest_44 : decode cX1_dropOldest 44 = .ok (.getfield 18, 3) := by decide +kernel
theorem dX1_dropOldest_47 : decode cX1_dropOldest 47 = .ok (.iconst 1, 1) := by decide +kernel
theorem dX1_dropOldest_48 : decode cX1_dropOldest 48 = .ok (.isub, 1) := by decide +kernel
theorem dX1_dropOldest_49 : decode cX1_dropOldest 49 = .ok (.putfield 18, 3) := by decide +kernel
theorem dX1_dropOldest_52 : decode cX1_dropOldest 52 = .ok (.return_, 1) := by decide +kernel
set_option maxRecDepth 20000 in
theorem ggX1_restoreLatest_X0_copyFrom : GoodIn wsX1_restoreLatest wsX0_copyFrom := goodIn_r _ [7, 8, 9, 10, 11, 12, 13, 14, 15, 16, 17, 18, 19, 20, 21, 24, 25, 26, 27, 28, 29, 30, 31, 32, 33] (by decide +kernel) (by decide +kernel)
set_option maxRecDepth 20000 in
theorem gX1_restoreLatest_X0_copyFrom : GoodIn wsX1_restoreLatest (wsV RX1 25 RX0 yX0_copyFrom wsX0_copyFrom) := goodIn_app (goodIn_of _ (by decide +kernel)) ggX1_restoreLatest_X0_copyFrom
theorem dX1_restoreLatest_0 : decode cX1_restoreLatest 0 = .ok (.aload_n 0, 1) := by decide +kernel
theorem dX1_restoreLatest_1 : decode cX1_restoreLatest 1 = .ok (.getfield 18, 3) := by decide +kernel
theorem dX1_restoreLatest_4 : decode cX1_restoreLatest 4 = .ok (.ifCond .le 26, 3) := by decide +kernel
theorem dX1_restoreLatest_7 : decode cX1_restoreLatest 7 = .ok (.aload_n 0, 1) := by decide +kernel
theorem dX1_restoreLatest_8 : decode cX1_restoreLatest 8 = .ok (.dup, 1) := by decide +kernel
theorem dX1_restoreLatest_9 : decode cX1_restoreLatest 9 = .ok (.getfield 18, 3) := by decide +kernel
theorem dX1_restoreLatest_12 : decode cX1_restoreLatest 12 = .ok (.iconst 1, 1) := by decide +kernel
theorem dX1_restoreLatest_13 : decode cX1_restoreLatest 13 = .ok (.isub, 1) := by decide +kernel
theorem dX1_restoreLatest_14 : decode cX1_restoreLatest 14 = .ok (.putfield 18, 3) := by decide +kernel
theorem dX1_restoreLatest_17 : decode cX1_restoreLatest 17 = .ok (.aload_n 1, 1) := by decide +kernel
theorem dX1_restoreLatest_18 : decode cX1_restoreLatest 18 = .ok (.aload_n 0, 1) := by decide +kernel
theorem dX1_restoreLatest_19 : decode cX1_restoreLatest 19 = .ok (.getfield 11, 3) := by decide +kernel
theorem dX1_restoreLatest_22 : decode cX1_restoreLatest 22 = .ok (.aload_n 0, 1) := by decide +kernel
theorem dX1_restoreLatest_23 : decode cX1_restoreLatest 23 = .ok (.getfield 18, 3) := by decide +kernel
theorem dX1_restoreLatest_26 : decode cX1_restoreLatest 26 = .ok (.aaload, 1) := by decide +kernel
theorem dX1_restoreLatest_27 : decode cX1_restoreLatest 27 = .ok (.invokevirtual 25, 3) := by decide +kernel
theorem dX1_restoreLatest_30 : decode cX1_restoreLatest 30 = .ok (.return_, 1) := by decide +kernel
theorem dX2_init_0 : decode cX2_init 0 = .ok (.aload_n 0, 1) := by decide +kernel
theorem dX2_init_1 : decode cX2_init 1 = .ok (.invokespecial 3, 3) := by decide +kernel
theorem dX2_init_4 : decode cX2_init 4 = .ok (.aload_n 0, 1) := by decide +kernel
theorem dX2_init_5 : decode cX2_init 5 = .ok (.bipush 60, 2) := by decide +kernel
theorem dX2_init_7 : decode cX2_init 7 = .ok (.newarray .char, 2) := by decide +kernel
theorem dX2_init_9 : decode cX2_init 9 = .ok (.putfield 9, 3) := by decide +kernel
theorem dX2_init_12 : decode cX2_init 12 = .ok (.aload_n 0, 1) := by decide +kernel
theorem dX2_init_13 : decode cX2_init 13 = .ok (.bipush 61, 2) := by decide +kernel
theorem dX2_init_15 : decode cX2_init 15 = .ok (.newarray .int, 2) := by decide +kernel
theorem dX2_init_17 : decode cX2_init 17 = .ok (.putfield 15, 3) := by decide +kernel
theorem dX2_init_20 : decode cX2_init 20 = .ok (.return_, 1) := by decide +kernel
theorem dX2_put_0 : decode cX2_put 0 = .ok (.aload_n 0, 1) := by decide +kernel
theorem dX2_put_1 : decode cX2_put 1 = .ok (.getfield 19, 3) := by decide +kernel
theorem dX2_put_4 : decode cX2_put 4 = .ok (.bipush 60, 2) := by decide +kernel
theorem dX2_put_6 : decode cX2_put 6 = .ok (.if_icmp .ge 23, 3) := by decide +kernel
theorem dX2_put_9 : decode cX2_put 9 = .ok (.aload_n 0, 1) := by decide +kernel
theorem dX2_put_10 : decode cX2_put 10 = .ok (.getfield 9, 3) := by decide +kernel
theorem dX2_put_13 : decode cX2_put 13 = .ok (.aload_n 0, 1) := by decide +kernel
theorem dX2_put_14 : decode cX2_put 14 = .ok (.getfield 19, 3) := by decide +kernel
theorem dX2_put_17 : decode cX2_put 17 = .ok (.iload_n 1, 1) := by decide +kernel
theorem dX2_put_18 : decode cX2_put 18 = .ok (.castore, 1) := by decide +kernel
theorem dX2_put_19 : decode cX2_put 19 = .ok (.aload_n 0, 1) := by decide +kernel
theorem dX2_put_20 : decode cX2_put 20 = .ok (.dup, 1) := by decide +kernel
theorem dX2_put_21 : decode cX2_put 21 = .ok (.getfield 19, 3) := by decide +kernel
theorem dX2_put_24 : decode cX2_put 24 = .ok (.iconst 1, 1) := by decide +kernel
theorem dX2_put_25 : decode cX2_put 25 = .ok (.iadd, 1) := by decide +kernel
theorem dX2_put_26 : decode cX2_put 26 = .ok (.putfield 19, 3) := by decide +kernel
theorem dX2_put_29 : decode cX2_put 29 = .ok (.return_, 1) := by decide +kernel
set_option maxRecDepth 20000 in
theorem ggX2_read_X2_readDigit : GoodIn wsX2_read wsX2_readDigit := goodIn_r _ [9, 1, 2, 10, 11, 12, 18, 19, 20, 21, 22] (by decide +kernel) (by decide +kernel)
set_option maxRecDepth 20000 in
theorem gX2_read_X2_readDigit : GoodIn wsX2_read (wsV RX2 30 RX2 yX2_readDigit wsX2_readDigit) := goodIn_app (goodIn_of _ (by decide +kernel)) ggX2_read_X2_readDigit
set_option maxRecDepth 20000 in
theorem ggX2_read_X2_readEnd : GoodIn wsX2_read wsX2_readEnd := goodIn_r _ [16, 2, 17, 1, 18, 19, 20, 21, 22] (by decide +kernel) (by decide +kernel)
set_option maxRecDepth 20000 in
theorem gX2_read_X2_readEnd : GoodIn wsX2_read (wsV RX2 34 RX2 yX2_readEnd wsX2_readEnd) := goodIn_app (goodIn_of _ (by decide +kernel)) ggX2_read_X2_readEnd
theorem dX2_read_0 : decode cX2_read 0 = .ok (.aload_n 0, 1) := by decide +kernel
theorem dX2_read_1 : decode cX2_read 1 = .ok (.iconst 0, 1) := by decide +kernel
theorem dX2_read_2 : decode cX2_read 2 = .ok (.putfield 23, 3) := by decide +kernel
theorem dX2_read_5 : decode cX2_read 5 = .ok (.aload_n 0, 1) := by decide +kernel
theorem dX2_read_6 : decode cX2_read 6 = .ok (.iconst 0, 1) := by decide +kernel
theorem dX2_read_7 : decode cX2_read 7 = .ok (.putfield 26, 3) := by decide +kernel
theorem dX2_read_10 : decode cX2_read 10 = .ok (.iconst 0, 1) := by decide +kernel
theorem dX2_read_11 : decode cX2_read 11 = .ok (.istore_n 1, 1) := by decide +kernel
theorem dX2_read_12 : decode cX2_read 12 = .ok (.iload_n 1, 1) := by decide +kernel
theorem dX2_read_13 : decode cX2_read 13 = .ok (.aload_n 0, 1) := by decide +kernel
theorem dX2_read_14 : decode cX2_read 14 = .ok (.getfield 19, 3) := by decide +kernel
theorem dX2_read_17 : decode cX2_read 17 = .ok (.if_icmp .ge 51, 3) := by decide +kernel
theorem dX2_read_20 : decode cX2_read 20 = .ok (.aload_n 0, 1) := by decide +kernel
theorem dX2_read_21 : decode cX2_read 21 = .ok (.getfield 9, 3) := by decide +kernel
theorem dX2_read_24 : decode cX2_read 24 = .ok (.iload_n 1, 1) := by decide +kernel
theorem dX2_read_25 : decode cX2_read 25 = .ok (.caload, 1) := by decide +kernel
theorem dX2_read_26 : decode cX2_read 26 = .ok (.istore_n 2, 1) := by decide +kernel
theorem dX2_read_27 : decode cX2_read 27 = .ok (.iload_n 2, 1) := by decide +kernel
theorem dX2_read_28 : decode cX2_read 28 = .ok (.bipush 48, 2) := by decide +kernel
theorem dX2_read_30 : decode cX2_read 30 = .ok (.if_icmp .lt 20, 3) := by decide +kernel
theorem dX2_read_33 : decode cX2_read 33 = .ok (.iload_n 2, 1) := by decide +kernel
theorem dX2_read_34 : decode cX2_read 34 = .ok (.bipush 57, 2) := by decide +kernel
theorem dX2_read_36 : decode cX2_read 36 = .ok (.if_icmp .gt 14, 3) := by decide +kernel
theorem dX2_read_39 : decode cX2_read 39 = .ok (.aload_n 0, 1) := by decide +kernel
theorem dX2_read_40 : decode cX2_read 40 = .ok (.iload_n 2, 1) := by decide +kernel
theorem dX2_read_41 : decode cX2_read 41 = .ok (.bipush 48, 2) := by decide +kernel
theorem dX2_read_43 : decode cX2_read 43 = .ok (.isub, 1) := by decide +kernel
theorem dX2_read_44 : decode cX2_read 44 = .ok (.invokevirtual 30, 3) := by decide +kernel
theorem dX2_read_47 : decode cX2_read 47 = .ok (.goto 8, 3) := by decide +kernel
theorem dX2_read_50 : decode cX2_read 50 = .ok (.aload_n 0, 1) := by decide +kernel
theorem dX2_read_51 : decode cX2_read 51 = .ok (.iload_n 2, 1) := by decide +kernel
theorem dX2_read_52 : decode cX2_read 52 = .ok (.invokevirtual 34, 3) := by decide +kernel
theorem dX2_read_55 : decode cX2_read 55 = .ok (.istore_n 3, 1) := by decide +kernel
theorem dX2_read_56 : decode cX2_read 56 = .ok (.iload_n 3, 1) := by decide +kernel
theorem dX2_read_57 : decode cX2_read 57 = .ok (.ifCond .ne 5, 3) := by decide +kernel
theorem dX2_read_60 : decode cX2_read 60 = .ok (.iload_n 1, 1) := by decide +kernel
theorem dX2_read_61 : decode cX2_read 61 = .ok (.ireturn, 1) := by decide +kernel
theorem dX2_read_62 : decode cX2_read 62 = .ok (.iinc 1 1, 3) := by decide +kernel
theorem dX2_read_65 : decode cX2_read 65 = .ok (.goto (-53), 3) := by decide +kernel
theorem dX2_read_68 : decode cX2_read 68 = .ok (.aload_n 0, 1) := by decide +kernel
theorem dX2_read_69 : decode cX2_read 69 = .ok (.getfield 19, 3) := by decide +kernel
theorem dX2_read_72 : decode cX2_read 72 = .ok (.ireturn, 1) := by decide +kernel
theorem dX2_readDigit_0 : decode cX2_readDigit 0 = .ok (.aload_n 0, 1) := by decide +kernel
theorem dX2_readDigit_1 : decode cX2_readDigit 1 = .ok (.getfield 23, 3) := by decide +kernel
theorem dX2_readDigit_4 : decode cX2_readDigit 4 = .ok (.iconst 3, 1) := by decide +kernel
theorem dX2_readDigit_5 : decode cX2_readDigit 5 = .ok (.irem, 1) := by decide +kernel
theorem dX2_readDigit_6 : decode cX2_readDigit 6 = .ok (.istore_n 2, 1) := by decide +kernel
theorem dX2_readDigit_7 : decode cX2_readDigit 7 = .ok (.aload_n 0, 1) := by decide +kernel
theorem dX2_readDigit_8 : decode cX2_readDigit 8 = .ok (.getfield 26, 3) := by decide +kernel
theorem dX2_readDigit_11 : decode cX2_readDigit 11 = .ok (.ifCond .ne 33, 3) := by decide +kernel
theorem dX2_readDigit_14 : decode cX2_readDigit 14 = .ok (.aload_n 0, 1) := by decide +kernel
theorem dX2_readDigit_15 : decode cX2_readDigit 15 = .ok (.getfield 15, 3) := by decide +kernel
theorem dX2_readDigit_18 : decode cX2_readDigit 18 = .ok (.aload_n 0, 1) := by decide +kernel
theorem dX2_readDigit_19 : decode cX2_readDigit 19 = .ok (.getfield 23, 3) := by decide +kernel
theorem dX2_readDigit_22 : decode cX2_readDigit 22 = .ok (.iload_n 1, 1) := by decide +kernel
theorem dX2_readDigit_23 : decode cX2_readDigit 23 = .ok (.iastore, 1) := by decide +kernel
theorem dX2_readDigit_24 : decode cX2_readDigit 24 = .ok (.aload_n 0, 1) := by decide +kernel
theorem dX2_readDigit_25 : decode cX2_readDigit 25 = .ok (.iconst 1, 1) := by decide +kernel
theorem dX2_readDigit_26 : decode cX2_readDigit 26 = .ok (.putfield 26, 3) := by decide +kernel
theorem dX2_readDigit_29 : decode cX2_readDigit 29 = .ok (.iload_n 1, 1) := by decide +kernel
theorem dX2_readDigit_30 : decode cX2_readDigit 30 = .ok (.getstatic 38, 3) := by decide +kernel
theorem dX2_readDigit_33 : decode cX2_readDigit 33 = .ok (.iload_n 2, 1) := by decide +kernel
theorem dX2_readDigit_34 : decode cX2_readDigit 34 = .ok (.iaload, 1) := by decide +kernel
theorem dX2_readDigit_35 : decode cX2_readDigit 35 = .ok (.if_icmp .lt 7, 3) := by decide +kernel
theorem dX2_readDigit_38 : decode cX2_readDigit 38 = .ok (.iconst 1, 1) := by decide +kernel
theorem dX2_readDigit_39 : decode cX2_readDigit 39 = .ok (.goto 4, 3) := by decide +kernel
theorem dX2_readDigit_42 : decode cX2_readDigit 42 = .ok (.iconst 0, 1) := by decide +kernel
theorem dX2_readDigit_43 : decode cX2_readDigit 43 = .ok (.ireturn, 1) := by decide +kernel
theorem dX2_readDigit_44 : decode cX2_readDigit 44 = .ok (.aload_n 0, 1) := by decide +kernel
theorem dX2_readDigit_45 : decode cX2_readDigit 45 = .ok (.getfield 15, 3) := by decide +kernel
theorem dX2_readDigit_48 : decode cX2_readDigit 48 = .ok (.aload_n 0, 1) := by decide +kernel
theorem dX2_readDigit_49 : decode cX2_readDigit 49 = .ok (.getfield 23, 3) := by decide +kernel
theorem dX2_readDigit_52 : decode cX2_readDigit 52 = .ok (.iaload, 1) := by decide +kernel
theorem dX2_readDigit_53 : decode cX2_readDigit 53 = .ok (.ifCond .le 29, 3) := by decide +kernel
theorem dX2_readDigit_56 : decode cX2_readDigit 56 = .ok (.aload_n 0, 1) := by decide +kernel
theorem dX2_readDigit_57 : decode cX2_readDigit 57 = .ok (.getfield 15, 3) := by decide +kernel
theorem dX2_readDigit_60 : decode cX2_readDigit 60 = .ok (.aload_n 0, 1) := by decide +kernel
theorem dX2_readDigit_61 : decode cX2_readDigit 61 = .ok (.getfield 23, 3) := by decide +kernel
theorem dX2_readDigit_64 : decode cX2_readDigit 64 = .ok (.iaload, 1) := by decide +kernel
theorem dX2_readDigit_65 : decode cX2_readDigit 65 = .ok (.bipush 10, 2) := by decide +kernel
theorem dX2_readDigit_67 : decode cX2_readDigit 67 = .ok (.imul, 1) := by decide +kernel
theorem dX2_readDigit_68 : decode cX2_readDigit 68 = .ok (.iload_n 1, 1) := by decide +kernel
theorem dX2_readDigit_69 : decode cX2_readDigit 69 = .ok (.iadd, 1) := by decide +kernel
theorem dX2_readDigit_70 : decode cX2_readDigit 70 = .ok (.getstatic 41, 3) := by decide +kernel
theorem dX2_readDigit_73 : decode cX2_readDigit 73 = .ok (.iload_n 2, 1) := by decide +kernel
theorem dX2_readDigit_74 : decode cX2_readDigit 74 = .ok (.iaload, 1) := by decide +kernel
theorem dX2_readDigit_75 : decode cX2_readDigit 75 = .ok (.if_icmp .gt 7, 3) := by decide +kernel
theorem dX2_readDigit_78 : decode cX2_readDigit 78 = .ok (.iconst 1, 1) := by decide +kernel
theorem dX2_readDigit_79 : decode cX2_readDigit 79 = .ok (.goto 4, 3) := by decide +kernel
theorem dX2_readDigit_82 : decode cX2_readDigit 82 = .ok (.iconst 0, 1) := by decide +kernel
theorem dX2_readDigit_83 : decode cX2_readDigit 83 = .ok (.istore_n 3, 1) := by decide +kernel
theorem dX2_readDigit_84 : decode cX2_readDigit 84 = .ok (.aload_n 0, 1) := by decide +kernel
theorem dX2_readDigit_85 : decode cX2_readDigit 85 = .ok (.getfield 15, 3) := by decide +kernel
theorem dX2_readDigit_88 : decode cX2_readDigit 88 = .ok (.aload_n 0, 1) := by decide +kernel
theorem dX2_readDigit_89 : decode cX2_readDigit 89 = .ok (.getfield 23, 3) := by decide +kernel
theorem dX2_readDigit_92 : decode cX2_readDigit 92 = .ok (.aload_n 0, 1) := by decide +kernel
theorem dX2_readDigit_93 : decode cX2_readDigit 93 = .ok (.getfield 15, 3) := by decide +kernel
theorem dX2_readDigit_96 : decode cX2_readDigit 96 = .ok (.aload_n 0, 1) := by decide +kernel
theorem dX2_readDigit_97 : decode cX2_readDigit 97 = .ok (.getfield 23, 3) := by decide +kernel
theorem dX2_readDigit_100 : decode cX2_readDigit 100 = .ok (.iaload, 1) := by decide +kernel
theorem dX2_readDigit_101 : decode cX2_readDigit 101 = .ok (.bipush 10, 2) := by decide +kernel
theorem dX2_readDigit_103 : decode cX2_readDigit 103 = .ok (.imul, 1) := by decide +kernel
theorem dX2_readDigit_104 : decode cX2_readDigit 104 = .ok (.iload_n 1, 1) := by decide +kernel
theorem dX2_readDigit_105 : decode cX2_readDigit 105 = .ok (.iadd, 1) := by decide +kernel
theorem dX2_readDigit_106 : decode cX2_readDigit 106 = .ok (.iastore, 1) := by decide +kernel
theorem dX2_readDigit_107 : decode cX2_readDigit 107 = .ok (.iload_n 3, 1) := by decide +kernel
theorem dX2_readDigit_108 : decode cX2_readDigit 108 = .ok (.ireturn, 1) := by decide +kernel
theorem dX2_readEnd_0 : decode cX2_readEnd 0 = .ok (.aload_n 0, 1) := by decide +kernel
theorem dX2_readEnd_1 : decode cX2_readEnd 1 = .ok (.getfield 26, 3) := by decide +kernel
theorem dX2_readEnd_4 : decode cX2_readEnd 4 = .ok (.ifCond .eq 17, 3) := by decide +kernel
theorem dX2_readEnd_7 : decode cX2_readEnd 7 = .ok (.iload_n 1, 1) := by decide +kernel
theorem dX2_readEnd_8 : decode cX2_readEnd 8 = .ok (.getstatic 44, 3) := by decide +kernel
theorem dX2_readEnd_11 : decode cX2_readEnd 11 = .ok (.aload_n 0, 1) := by decide +kernel
theorem dX2_readEnd_12 : decode cX2_readEnd 12 = .ok (.getfield 23, 3) := by decide +kernel
theorem dX2_readEnd_15 : decode cX2_readEnd 15 = .ok (.iconst 3, 1) := by decide +kernel
theorem dX2_readEnd_16 : decode cX2_readEnd 16 = .ok (.irem, 1) := by decide +kernel
theorem dX2_readEnd_17 : decode cX2_readEnd 17 = .ok (.caload, 1) := by decide +kernel
theorem dX2_readEnd_18 : decode cX2_readEnd 18 = .ok (.if_icmp .eq 5, 3) := by decide +kernel
theorem dX2_readEnd_21 : decode cX2_readEnd 21 = .ok (.iconst 0, 1) := by decide +kernel
theorem dX2_readEnd_22 : decode cX2_readEnd 22 = .ok (.ireturn, 1) := by decide +kernel
theorem dX2_readEnd_23 : decode cX2_readEnd 23 = .ok (.aload_n 0, 1) := by decide +kernel
theorem dX2_readEnd_24 : decode cX2_readEnd 24 = .ok (.dup, 1) := by decide +kernel
theorem dX2_readEnd_25 : decode cX2_readEnd 25 = .ok (.getfield 23, 3) := by decide +kernel
theorem dX2_readEnd_28 : decode cX2_readEnd 28 = .ok (.iconst 1, 1) := by decide +kernel
theorem dX2_readEnd_29 : decode cX2_readEnd 29 = .ok (.iadd, 1) := by decide +kernel
theorem dX2_readEnd_30 : decode cX2_readEnd 30 = .ok (.putfield 23, 3) := by decide +kernel
theorem dX2_readEnd_33 : decode cX2_readEnd 33 = .ok (.aload_n 0, 1) := by decide +kernel
theorem dX2_readEnd_34 : decode cX2_readEnd 34 = .ok (.iconst 0, 1) := by decide +kernel
theorem dX2_readEnd_35 : decode cX2_readEnd 35 = .ok (.putfield 26, 3) := by decide +kernel
theorem dX2_readEnd_38 : decode cX2_readEnd 38 = .ok (.iconst 1, 1) := by decide +kernel
theorem dX2_readEnd_39 : decode cX2_readEnd 39 = .ok (.ireturn, 1) := by decide +kernel
set_option maxRecDepth 20000 in
theorem ggX2_isComplete_X2_read : GoodIn wsX2_isComplete wsX2_read := goodIn_r _ [8, 3, 2, 1, 9, 10, 11, 12, 7, 13, 14, 15, 16, 17, 18, 19, 20, 21, 22, 23, 24, 25, 26] (by decide +kernel) (by decide +kernel)
set_option maxRecDepth 20000 in
theorem gX2_isComplete_X2_read : GoodIn wsX2_isComplete (wsV RX2 47 RX2 yX2_read wsX2_read) := goodIn_app (goodIn_of _ (by decide +kernel)) ggX2_isComplete_X2_read
theorem dX2_isComplete_0 : decode cX2_isComplete 0 = .ok (.aload_n 0, 1) := by decide +kernel
theorem dX2_isComplete_1 : decode cX2_isComplete 1 = .ok (.invokevirtual 47, 3) := by decide +kernel
theorem dX2_isComplete_4 : decode cX2_isComplete 4 = .ok (.aload_n 0, 1) := by decide +kernel
theorem dX2_isComplete_5 : decode cX2_isComplete 5 = .ok (.getfield 19, 3) := by decide +kernel
theorem dX2_isComplete_8 : decode cX2_isComplete 8 = .ok (.if_icmp .ne 24, 3) := by decide +kernel
theorem dX2_isComplete_11 : decode cX2_isComplete 11 = .ok (.aload_n 0, 1) := by decide +kernel
theorem dX2_isComplete_12 : decode cX2_isComplete 12 = .ok (.getfield 26, 3) := by decide +kernel
theorem dX2_isComplete_15 : decode cX2_isComplete 15 = .ok (.ifCond .eq 17, 3) := by decide +kernel
theorem dX2_isComplete_18 : decode cX2_isComplete 18 = .ok (.aload_n 0, 1) := by decide +kernel
theorem dX2_isComplete_19 : decode cX2_isComplete 19 = .ok (.getfield 23, 3) := by decide +kernel
theorem dX2_isComplete_22 : decode cX2_isComplete 22 = .ok (.iconst 3, 1) := by decide +kernel
theorem dX2_isComplete_23 : decode cX2_isComplete 23 = .ok (.irem, 1) := by decide +kernel
theorem dX2_isComplete_24 : decode cX2_isComplete 24 = .ok (.iconst 2, 1) := by decide +kernel
theorem dX2_isComplete_25 : decode cX2_isComplete 25 = .ok (.if_icmp .ne 7, 3) := by decide +kernel
theorem dX2_isComplete_28 : decode cX2_isComplete 28 = .ok (.iconst 1, 1) := by decide +kernel
theorem dX2_isComplete_29 : decode cX2_isComplete 29 = .ok (.goto 4, 3) := by decide +kernel
theorem dX2_isComplete_32 : decode cX2_isComplete 32 = .ok (.iconst 0, 1) := by decide +kernel
theorem dX2_isComplete_33 : decode cX2_isComplete 33 = .ok (.ireturn, 1) := by decide +kernel
theorem dX2_rowsRead_0 : decode cX2_rowsRead 0 = .ok (.aload_n 0, 1) := by decide +kernel
theorem dX2_rowsRead_1 : decode cX2_rowsRead 1 = .ok (.getfield 23, 3) := by decide +kernel
theorem dX2_rowsRead_4 : decode cX2_rowsRead 4 = .ok (.iconst 3, 1) := by decide +kernel
theorem dX2_rowsRead_5 : decode cX2_rowsRead 5 = .ok (.idiv, 1) := by decide +kernel
theorem dX2_rowsRead_6 : decode cX2_rowsRead 6 = .ok (.iconst 1, 1) := by decide +kernel
theorem dX2_rowsRead_7 : decode cX2_rowsRead 7 = .ok (.iadd, 1) := by decide +kernel
theorem dX2_rowsRead_8 : decode cX2_rowsRead 8 = .ok (.ireturn, 1) := by decide +kernel
theorem dX2_distanceRead_0 : decode cX2_distanceRead 0 = .ok (.aload_n 0, 1) := by decide +kernel
theorem dX2_distanceRead_1 : decode cX2_distanceRead 1 = .ok (.getfield 15, 3) := by decide +kernel
theorem dX2_distanceRead_4 : decode cX2_distanceRead 4 = .ok (.iload_n 1, 1) := by decide +kernel
theorem dX2_distanceRead_5 : decode cX2_distanceRead 5 = .ok (.iconst 3, 1) := by decide +kernel
theorem dX2_distanceRead_6 : decode cX2_distanceRead 6 = .ok (.imul, 1) := by decide +kernel
theorem dX2_distanceRead_7 : decode cX2_distanceRead 7 = .ok (.iconst 0, 1) := by decide +kernel
theorem dX2_distanceRead_8 : decode cX2_distanceRead 8 = .ok (.iadd, 1) := by decide +kernel
theorem dX2_distanceRead_9 : decode cX2_distanceRead 9 = .ok (.iaload, 1) := by decide +kernel
theorem dX2_distanceRead_10 : decode cX2_distanceRead 10 = .ok (.ireturn, 1) := by decide +kernel
theorem dX2_heightRead_0 : decode cX2_heightRead 0 = .ok (.aload_n 0, 1) := by decide +kernel
theorem dX2_heightRead_1 : decode cX2_heightRead 1 = .ok (.getfield 15, 3) := by decide +kernel
theorem dX2_heightRead_4 : decode cX2_heightRead 4 = .ok (.iload_n 1, 1) := by decide +kernel
theorem dX2_heightRead_5 : decode cX2_heightRead 5 = .ok (.iconst 3, 1) := by decide +kernel
theorem dX2_heightRead_6 : decode cX2_heightRead 6 = .ok (.imul, 1) := by decide +kernel
theorem dX2_heightRead_7 : decode cX2_heightRead 7 = .ok (.iconst 1, 1) := by decide +kernel
theorem dX2_heightRead_8 : decode cX2_heightRead 8 = .ok (.iadd, 1) := by decide +kernel
theorem dX2_heightRead_9 : decode cX2_heightRead 9 = .ok (.iaload, 1) := by decide +kernel
theorem dX2_heightRead_10 : decode cX2_heightRead 10 = .ok (.ireturn, 1) := by decide +kernel
theorem dX2_seatsRead_0 : decode cX2_seatsRead 0 = .ok (.aload_n 0, 1) := by decide +kernel
theorem dX2_seatsRead_1 : decode cX2_seatsRead 1 = .ok (.getfield 15, 3) := by decide +kernel
theorem dX2_seatsRead_4 : decode cX2_seatsRead 4 = .ok (.iload_n 1, 1) := by decide +kernel
theorem dX2_seatsRead_5 : decode cX2_seatsRead 5 = .ok (.iconst 3, 1) := by decide +kernel
theorem dX2_seatsRead_6 : decode cX2_seatsRead 6 = .ok (.imul, 1) := by decide +kernel
theorem dX2_seatsRead_7 : decode cX2_seatsRead 7 = .ok (.iconst 2, 1) := by decide +kernel
theorem dX2_seatsRead_8 : decode cX2_seatsRead 8 = .ok (.iadd, 1) := by decide +kernel
theorem dX2_seatsRead_9 : decode cX2_seatsRead 9 = .ok (.iaload, 1) := by decide +kernel
theorem dX2_seatsRead_10 : decode cX2_seatsRead 10 = .ok (.ireturn, 1) := by decide +kernel
set_option maxRecDepth 20000 in
theorem ggX3_init_X0_init : GoodIn wsX3_init wsX0_init := goodIn_r _ [13, 14, 2, 3, 8, 15, 16, 17, 18, 19, 20, 21, 22, 23, 24, 25, 26, 27, 28, 29, 30, 31, 32] (by decide +kernel) (by decide +kernel)
set_option maxRecDepth 20000 in
theorem gX3_init_X0_init_n11 : GoodIn wsX3_init (wsX0_init) := ggX3_init_X0_init
theorem dX3_init_0 : decode cX3_init 0 = .ok (.aload_n 0, 1) := by decide +kernel
theorem dX3_init_1 : decode cX3_init 1 = .ok (.invokespecial 3, 3) := by decide +kernel
theorem dX3_init_4 : decode cX3_init 4 = .ok (.aload_n 0, 1) := by decide +kernel
theorem dX3_init_5 : decode cX3_init 5 = .ok (.new 9, 3) := by decide +kernel
theorem dX3_init_8 : decode cX3_init 8 = .ok (.dup, 1) := by decide +kernel
theorem dX3_init_9 : decode cX3_init 9 = .ok (.invokespecial 11, 3) := by decide +kernel
theorem dX3_init_12 : decode cX3_init 12 = .ok (.putfield 12, 3) := by decide +kernel
theorem dX3_init_15 : decode cX3_init 15 = .ok (.aload_n 0, 1) := by decide +kernel
theorem dX3_init_16 : decode cX3_init 16 = .ok (.bipush 120, 2) := by decide +kernel
theorem dX3_init_18 : decode cX3_init 18 = .ok (.newarray .int, 2) := by decide +kernel
theorem dX3_init_20 : decode cX3_init 20 = .ok (.putfield 18, 3) := by decide +kernel
theorem dX3_init_23 : decode cX3_init 23 = .ok (.aload_n 0, 1) := by decide +kernel
theorem dX3_init_24 : decode cX3_init 24 = .ok (.bipush 120, 2) := by decide +kernel
theorem dX3_init_26 : decode cX3_init 26 = .ok (.newarray .int, 2) := by decide +kernel
theorem dX3_init_28 : decode cX3_init 28 = .ok (.putfield 22, 3) := by decide +kernel
theorem dX3_init_31 : decode cX3_init 31 = .ok (.aload_n 0, 1) := by decide +kernel
theorem dX3_init_32 : decode cX3_init 32 = .ok (.bipush 120, 2) := by decide +kernel
theorem dX3_init_34 : decode cX3_init 34 = .ok (.newarray .int, 2) := by decide +kernel
theorem dX3_init_36 : decode cX3_init 36 = .ok (.putfield 25, 3) := by decide +kernel
theorem dX3_init_39 : decode cX3_init 39 = .ok (.return_, 1) := by decide +kernel
theorem dX3_forget_0 : decode cX3_forget 0 = .ok (.aload_n 0, 1) := by decide +kernel
theorem dX3_forget_1 : decode cX3_forget 1 = .ok (.iconst 0, 1) := by decide +kernel
theorem dX3_forget_2 : decode cX3_forget 2 = .ok (.putfield 28, 3) := by decide +kernel
theorem dX3_forget_5 : decode cX3_forget 5 = .ok (.return_, 1) := by decide +kernel
set_option maxRecDepth 20000 in
theorem ggX3_look_X3_cellOf : GoodIn wsX3_look wsX3_cellOf := goodIn_r _ [11] (by decide +kernel) (by decide +kernel)
set_option maxRecDepth 20000 in
theorem gX3_look_X3_cellOf : GoodIn wsX3_look (va_wsS RX3 39 yX3_cellOf wsX3_cellOf) := goodIn_app (goodIn_of _ (by decide +kernel)) ggX3_look_X3_cellOf
set_option maxRecDepth 20000 in
theorem ggX3_look_X0_peopleInWay : GoodIn wsX3_look wsX0_peopleInWay := goodIn_r _ [16, 17, 18, 19, 20, 15, 21, 22, 23, 24, 25, 26, 27, 28, 29, 30, 31, 32, 33, 34, 35, 36, 37, 38, 39, 40, 41, 42, 43, 44, 45, 73, 74, 75, 76, 77, 78, 79, 80, 81, 82] (by decide +kernel) (by decide +kernel)
set_option maxRecDepth 20000 in
theorem gX3_look_X0_peopleInWay : GoodIn wsX3_look (wsV RX3 43 RX0 yX0_peopleInWay wsX0_peopleInWay) := goodIn_app (goodIn_of _ (by decide +kernel)) ggX3_look_X0_peopleInWay
set_option maxRecDepth 20000 in
theorem ggX3_look_X0_columnsInWay : GoodIn wsX3_look wsX0_columnsInWay := goodIn_r _ [49, 50, 51, 52, 53, 15, 54, 27, 55, 56, 28, 29, 30, 31, 57, 32, 33, 34, 35, 17, 73, 74, 75, 76, 77, 78, 79, 80, 81, 82] (by decide +kernel) (by decide +kernel)
set_option maxRecDepth 20000 in
theorem gX3_look_X0_columnsInWay : GoodIn wsX3_look (wsV RX3 46 RX0 yX0_columnsInWay wsX0_columnsInWay) := goodIn_app (goodIn_of _ (by decide +kernel)) ggX3_look_X0_columnsInWay
set_option maxRecDepth 20000 in
theorem ggX3_look_X3_rankOf : GoodIn wsX3_look wsX3_rankOf := goodIn_r _ [61, 2, 62, 29, 30, 31, 63, 64, 65, 10, 66, 5, 6, 8, 9, 11, 67, 33, 34, 15, 35, 17, 68, 69, 70, 71, 72, 73, 74, 75, 76, 77, 78, 79, 80, 81, 82] (by decide +kernel) (by decide +kernel)
set_option maxRecDepth 20000 in
theorem gX3_look_X3_rankOf : GoodIn wsX3_look (wsV RX3 49 RX3 yX3_rankOf wsX3_rankOf) := goodIn_app (goodIn_of _ (by decide +kernel)) ggX3_look_X3_rankOf
theorem dX3_look_0 : decode cX3_look 0 = .ok (.aload_n 0, 1) := by decide +kernel
theorem dX3_look_1 : decode cX3_look 1 = .ok (.getfield 28, 3) := by decide +kernel
theorem dX3_look_4 : decode cX3_look 4 = .ok (.ifCond .eq 4, 3) := by decide +kernel
theorem dX3_look_7 : decode cX3_look 7 = .ok (.return_, 1) := by decide +kernel
theorem dX3_look_8 : decode cX3_look 8 = .ok (.iconst 0, 1) := by decide +kernel
theorem dX3_look_9 : decode cX3_look 9 = .ok (.istore_n 1, 1) := by decide +kernel
theorem dX3_look_10 : decode cX3_look 10 = .ok (.iload_n 1, 1) := by decide +kernel
theorem dX3_look_11 : decode cX3_look 11 = .ok (.aload_n 0, 1) := by decide +kernel
theorem dX3_look_12 : decode cX3_look 12 = .ok (.getfield 12, 3) := by decide +kernel
theorem dX3_look_15 : decode cX3_look 15 = .ok (.getfield 32, 3) := by decide +kernel
theorem dX3_look_18 : decode cX3_look 18 = .ok (.if_icmp .ge 78, 3) := by decide +kernel
theorem dX3_look_21 : decode cX3_look 21 = .ok (.iconst 0, 1) := by decide +kernel
theorem dX3_look_22 : decode cX3_look 22 = .ok (.istore_n 2, 1) := by decide +kernel
theorem dX3_look_23 : decode cX3_look 23 = .ok (.iload_n 2, 1) := by decide +kernel
theorem dX3_look_24 : decode cX3_look 24 = .ok (.aload_n 0, 1) := by decide +kernel
theorem dX3_look_25 : decode cX3_look 25 = .ok (.getfield 12, 3) := by decide +kernel
theorem dX3_look_28 : decode cX3_look 28 = .ok (.getfield 36, 3) := by decide +kernel
theorem dX3_look_31 : decode cX3_look 31 = .ok (.iload_n 1, 1) := by decide +kernel
theorem dX3_look_32 : decode cX3_look 32 = .ok (.iaload, 1) := by decide +kernel
theorem dX3_look_33 : decode cX3_look 33 = .ok (.if_icmp .ge 57, 3) := by decide +kernel
theorem dX3_look_36 : decode cX3_look 36 = .ok (.iload_n 1, 1) := by decide +kernel
theorem dX3_look_37 : decode cX3_look 37 = .ok (.iload_n 2, 1) := by decide +kernel
theorem dX3_look_38 : decode cX3_look 38 = .ok (.invokestatic 39, 3) := by decide +kernel
theorem dX3_look_41 : decode cX3_look 41 = .ok (.istore_n 3, 1) := by decide +kernel
theorem dX3_look_42 : decode cX3_look 42 = .ok (.aload_n 0, 1) := by decide +kernel
theorem dX3_look_43 : decode cX3_look 43 = .ok (.getfield 18, 3) := by decide +kernel
theorem dX3_look_46 : decode cX3_look 46 = .ok (.iload_n 3, 1) := by decide +kernel
theorem dX3_look_47 : decode cX3_look 47 = .ok (.aload_n 0, 1) := by decide +kernel
theorem dX3_look_48 : decode cX3_look 48 = .ok (.getfield 12, 3) := by decide +kernel
theorem dX3_look_51 : decode cX3_look 51 = .ok (.iload_n 1, 1) := by decide +kernel
theorem dX3_look_52 : decode cX3_look 52 = .ok (.iload_n 2, 1) := by decide +kernel
theorem dX3_look_53 : decode cX3_look 53 = .ok (.invokevirtual 43, 3) := by decide +kernel
theorem dX3_look_56 : decode cX3_look 56 = .ok (.iastore, 1) := by decide +kernel
theorem dX3_look_57 : decode cX3_look 57 = .ok (.aload_n 0, 1) := by decide +kernel
theorem dX3_look_58 : decode cX3_look 58 = .ok (.getfield 22, 3) := by decide +kernel
theorem dX3_look_61 : decode cX3_look 61 = .ok (.iload_n 3, 1) := by decide +kernel
theorem dX3_look_62 : decode cX3_look 62 = .ok (.aload_n 0, 1) := by decide +kernel
theorem dX3_look_63 : decode cX3_look 63 = .ok (.getfield 12, 3) := by decide +kernel
theorem dX3_look_66 : decode cX3_look 66 = .ok (.iload_n 1, 1) := by decide +kernel
theorem dX3_look_67 : decode cX3_look 67 = .ok (.iload_n 2, 1) := by decide +kernel
theorem dX3_look_68 : decode cX3_look 68 = .ok (.invokevirtual 46, 3) := by decide +kernel
theorem dX3_look_71 : decode cX3_look 71 = .ok (.iastore, 1) := by decide +kernel
theorem dX3_look_72 : decode cX3_look 72 = .ok (.aload_n 0, 1) := by decide +kernel
theorem dX3_look_73 : decode cX3_look 73 = .ok (.getfield 25, 3) := by decide +kernel
theorem dX3_look_76 : decode cX3_look 76 = .ok (.iload_n 3, 1) := by decide +kernel
theorem dX3_look_77 : decode cX3_look 77 = .ok (.aload_n 0, 1) := by decide +kernel
theorem dX3_look_78 : decode cX3_look 78 = .ok (.iload_n 1, 1) := by decide +kernel
theorem dX3_look_79 : decode cX3_look 79 = .ok (.iload_n 2, 1) := by decide +kernel
theorem dX3_look_80 : decode cX3_look 80 = .ok (.invokevirtual 49, 3) := by decide +kernel
theorem dX3_look_83 : decode cX3_look 83 = .ok (.iastore, 1) := by decide +kernel
theorem dX3_look_84 : decode cX3_look 84 = .ok (.iinc 2 1, 3) := by decide +kernel
theorem dX3_look_87 : decode cX3_look 87 = .ok (.goto (-64), 3) := by decide +kernel
theorem dX3_look_90 : decode cX3_look 90 = .ok (.iinc 1 1, 3) := by decide +kernel
theorem dX3_look_93 : decode cX3_look 93 = .ok (.goto (-83), 3) := by decide +kernel
theorem dX3_look_96 : decode cX3_look 96 = .ok (.aload_n 0, 1) := by decide +kernel
theorem dX3_look_97 : decode cX3_look 97 = .ok (.iconst 1, 1) := by decide +kernel
theorem dX3_look_98 : decode cX3_look 98 = .ok (.putfield 28, 3) := by decide +kernel
theorem dX3_look_101 : decode cX3_look 101 = .ok (.return_, 1) := by decide +kernel
theorem dX3_cellOf_0 : decode cX3_cellOf 0 = .ok (.iload_n 0, 1) := by decide +kernel
theorem dX3_cellOf_1 : decode cX3_cellOf 1 = .ok (.bipush 12, 2) := by decide +kernel
theorem dX3_cellOf_3 : decode cX3_cellOf 3 = .ok (.imul, 1) := by decide +kernel
theorem dX3_cellOf_4 : decode cX3_cellOf 4 = .ok (.iload_n 1, 1) := by decide +kernel
theorem dX3_cellOf_5 : decode cX3_cellOf 5 = .ok (.iadd, 1) := by decide +kernel
theorem dX3_cellOf_6 : decode cX3_cellOf 6 = .ok (.ireturn, 1) := by decide +kernel
set_option maxRecDepth 20000 in
theorem ggX3_rankOf_X3_allInWay : GoodIn wsX3_rankOf wsX3_allInWay := goodIn_r _ [10, 11, 12, 13, 14, 9, 15, 22, 23, 24, 25, 26] (by decide +kernel) (by decide +kernel)
set_option maxRecDepth 20000 in
theorem gX3_rankOf_X3_allInWay : GoodIn wsX3_rankOf (wsV RX3 52 RX3 yX3_allInWay wsX3_allInWay) := goodIn_app (goodIn_of _ (by decide +kernel)) ggX3_rankOf_X3_allInWay
set_option maxRecDepth 20000 in
theorem ggX3_rankOf_X0_sideOf : GoodIn wsX3_rankOf wsX0_sideOf := goodIn_r _ [20, 21, 27, 28, 29, 30, 31, 32, 33, 34, 35, 36] (by decide +kernel) (by decide +kernel)
set_option maxRecDepth 20000 in
theorem gX3_rankOf_X0_sideOf : GoodIn wsX3_rankOf (wsV RX3 55 RX0 yX0_sideOf wsX0_sideOf) := goodIn_app (goodIn_of _ (by decide +kernel)) ggX3_rankOf_X0_sideOf
theorem dX3_rankOf_0 : decode cX3_rankOf 0 = .ok (.aload_n 0, 1) := by decide +kernel
theorem dX3_rankOf_1 : decode cX3_rankOf 1 = .ok (.iload_n 1, 1) := by decide +kernel
theorem dX3_rankOf_2 : decode cX3_rankOf 2 = .ok (.iload_n 2, 1) := by decide +kernel
theorem dX3_rankOf_3 : decode cX3_rankOf 3 = .ok (.invokevirtual 52, 3) := by decide +kernel
theorem dX3_rankOf_6 : decode cX3_rankOf 6 = .ok (.bipush 10, 2) := by decide +kernel
theorem dX3_rankOf_8 : decode cX3_rankOf 8 = .ok (.imul, 1) := by decide +kernel
theorem dX3_rankOf_9 : decode cX3_rankOf 9 = .ok (.iload_n 1, 1) := by decide +kernel
theorem dX3_rankOf_10 : decode cX3_rankOf 10 = .ok (.iadd, 1) := by decide +kernel
theorem dX3_rankOf_11 : decode cX3_rankOf 11 = .ok (.istore_n 3, 1) := by decide +kernel
theorem dX3_rankOf_12 : decode cX3_rankOf 12 = .ok (.iload_n 3, 1) := by decide +kernel
theorem dX3_rankOf_13 : decode cX3_rankOf 13 = .ok (.bipush 12, 2) := by decide +kernel
theorem dX3_rankOf_15 : decode cX3_rankOf 15 = .ok (.imul, 1) := by decide +kernel
theorem dX3_rankOf_16 : decode cX3_rankOf 16 = .ok (.aload_n 0, 1) := by decide +kernel
theorem dX3_rankOf_17 : decode cX3_rankOf 17 = .ok (.getfield 12, 3) := by decide +kernel
theorem dX3_rankOf_20 : decode cX3_rankOf 20 = .ok (.iload_n 1, 1) := by decide +kernel
theorem dX3_rankOf_21 : decode cX3_rankOf 21 = .ok (.iload_n 2, 1) := by decide +kernel
theorem dX3_rankOf_22 : decode cX3_rankOf 22 = .ok (.invokevirtual 55, 3) := by decide +kernel
theorem dX3_rankOf_25 : decode cX3_rankOf 25 = .ok (.invokestatic 58, 3) := by decide +kernel
theorem dX3_rankOf_28 : decode cX3_rankOf 28 = .ok (.iadd, 1) := by decide +kernel
theorem dX3_rankOf_29 : decode cX3_rankOf 29 = .ok (.istore_n 3, 1) := by decide +kernel
theorem dX3_rankOf_30 : decode cX3_rankOf 30 = .ok (.iload_n 3, 1) := by decide +kernel
theorem dX3_rankOf_31 : decode cX3_rankOf 31 = .ok (.bipush 12, 2) := by decide +kernel
theorem dX3_rankOf_33 : decode cX3_rankOf 33 = .ok (.imul, 1) := by decide +kernel
theorem dX3_rankOf_34 : decode cX3_rankOf 34 = .ok (.iload_n 2, 1) := by decide +kernel
theorem dX3_rankOf_35 : decode cX3_rankOf 35 = .ok (.iadd, 1) := by decide +kernel
theorem dX3_rankOf_36 : decode cX3_rankOf 36 = .ok (.ireturn, 1) := by decide +kernel
set_option maxRecDepth 20000 in
theorem ggX3_allInWay_X3_cellOf : GoodIn wsX3_allInWay wsX3_cellOf := goodIn_r _ [6] (by decide +kernel) (by decide +kernel)
set_option maxRecDepth 20000 in
theorem gX3_allInWay_X3_cellOf : GoodIn wsX3_allInWay (va_wsS RX3 39 yX3_cellOf wsX3_cellOf) := goodIn_app (goodIn_of _ (by decide +kernel)) ggX3_allInWay_X3_cellOf
theorem dX3_allInWay_0 : decode cX3_allInWay 0 = .ok (.iload_n 1, 1) := by decide +kernel
theorem dX3_allInWay_1 : decode cX3_allInWay 1 = .ok (.iload_n 2, 1) := by decide +kernel
theorem dX3_allInWay_2 : decode cX3_allInWay 2 = .ok (.invokestatic 39, 3) := by decide +kernel
theorem dX3_allInWay_5 : decode cX3_allInWay 5 = .ok (.istore_n 3, 1) := by decide +kernel
theorem dX3_allInWay_6 : decode cX3_allInWay 6 = .ok (.aload_n 0, 1) := by decide +kernel
theorem dX3_allInWay_7 : decode cX3_allInWay 7 = .ok (.getfield 18, 3) := by decide +kernel
theorem dX3_allInWay_10 : decode cX3_allInWay 10 = .ok (.iload_n 3, 1) := by decide +kernel
theorem dX3_allInWay_11 : decode cX3_allInWay 11 = .ok (.iaload, 1) := by decide +kernel
theorem dX3_allInWay_12 : decode cX3_allInWay 12 = .ok (.aload_n 0, 1) := by decide +kernel
theorem dX3_allInWay_13 : decode cX3_allInWay 13 = .ok (.getfield 22, 3) := by decide +kernel
theorem dX3_allInWay_16 : decode cX3_allInWay 16 = .ok (.iload_n 3, 1) := by decide +kernel
theorem dX3_allInWay_17 : decode cX3_allInWay 17 = .ok (.iaload, 1) := by decide +kernel
theorem dX3_allInWay_18 : decode cX3_allInWay 18 = .ok (.iadd, 1) := by decide +kernel
theorem dX3_allInWay_19 : decode cX3_allInWay 19 = .ok (.ireturn, 1) := by decide +kernel
set_option maxRecDepth 20000 in
theorem ggX3_sees_X3_allInWay : GoodIn wsX3_sees wsX3_allInWay := goodIn_r _ [5, 6, 7, 8, 9, 4, 10, 11, 12, 13, 14, 15] (by decide +kernel) (by decide +kernel)
set_option maxRecDepth 20000 in
theorem gX3_sees_X3_allInWay : GoodIn wsX3_sees (wsV RX3 52 RX3 yX3_allInWay wsX3_allInWay) := goodIn_app (goodIn_of _ (by decide +kernel)) ggX3_sees_X3_allInWay
theorem dX3_sees_0 : decode cX3_sees 0 = .ok (.aload_n 0, 1) := by decide +kernel
theorem dX3_sees_1 : decode cX3_sees 1 = .ok (.iload_n 1, 1) := by decide +kernel
theorem dX3_sees_2 : decode cX3_sees 2 = .ok (.iload_n 2, 1) := by decide +kernel
theorem dX3_sees_3 : decode cX3_sees 3 = .ok (.invokevirtual 52, 3) := by decide +kernel
theorem dX3_sees_6 : decode cX3_sees 6 = .ok (.ifCond .ne 7, 3) := by decide +kernel
theorem dX3_sees_9 : decode cX3_sees 9 = .ok (.iconst 1, 1) := by decide +kernel
theorem dX3_sees_10 : decode cX3_sees 10 = .ok (.goto 4, 3) := by decide +kernel
theorem dX3_sees_13 : decode cX3_sees 13 = .ok (.iconst 0, 1) := by decide +kernel
theorem dX3_sees_14 : decode cX3_sees 14 = .ok (.ireturn, 1) := by decide +kernel
set_option maxRecDepth 20000 in
theorem ggX3_seeingInRow_X3_sees : GoodIn wsX3_seeingInRow wsX3_sees := goodIn_r _ [7, 8, 9, 10, 6, 11, 12, 13, 14, 15, 16, 17, 18, 19, 20, 21] (by decide +kernel) (by decide +kernel)
set_option maxRecDepth 20000 in
theorem gX3_seeingInRow_X3_sees : GoodIn wsX3_seeingInRow (wsV RX3 64 RX3 yX3_sees wsX3_sees) := goodIn_app (goodIn_of _ (by decide +kernel)) ggX3_seeingInRow_X3_sees
theorem dX3_seeingInRow_0 : decode cX3_seeingInRow 0 = .ok (.iconst 0, 1) := by decide +kernel
theorem dX3_seeingInRow_1 : decode cX3_seeingInRow 1 = .ok (.istore_n 2, 1) := by decide +kernel
theorem dX3_seeingInRow_2 : decode cX3_seeingInRow 2 = .ok (.iconst 0, 1) := by decide +kernel
theorem dX3_seeingInRow_3 : decode cX3_seeingInRow 3 = .ok (.istore_n 3, 1) := by decide +kernel
theorem dX3_seeingInRow_4 : decode cX3_seeingInRow 4 = .ok (.iload_n 3, 1) := by decide +kernel
theorem dX3_seeingInRow_5 : decode cX3_seeingInRow 5 = .ok (.aload_n 0, 1) := by decide +kernel
theorem dX3_seeingInRow_6 : decode cX3_seeingInRow 6 = .ok (.getfield 12, 3) := by decide +kernel
theorem dX3_seeingInRow_9 : decode cX3_seeingInRow 9 = .ok (.getfield 36, 3) := by decide +kernel
theorem dX3_seeingInRow_12 : decode cX3_seeingInRow 12 = .ok (.iload_n 1, 1) := by decide +kernel
theorem dX3_seeingInRow_13 : decode cX3_seeingInRow 13 = .ok (.iaload, 1) := by decide +kernel
theorem dX3_seeingInRow_14 : decode cX3_seeingInRow 14 = .ok (.if_icmp .ge 21, 3) := by decide +kernel
theorem dX3_seeingInRow_17 : decode cX3_seeingInRow 17 = .ok (.aload_n 0, 1) := by decide +kernel
theorem dX3_seeingInRow_18 : decode cX3_seeingInRow 18 = .ok (.iload_n 1, 1) := by decide +kernel
theorem dX3_seeingInRow_19 : decode cX3_seeingInRow 19 = .ok (.iload_n 3, 1) := by decide +kernel
theorem dX3_seeingInRow_20 : decode cX3_seeingInRow 20 = .ok (.invokevirtual 64, 3) := by decide +kernel
theorem dX3_seeingInRow_23 : decode cX3_seeingInRow 23 = .ok (.ifCond .eq 6, 3) := by decide +kernel
theorem dX3_seeingInRow_26 : decode cX3_seeingInRow 26 = .ok (.iinc 2 1, 3) := by decide +kernel
theorem dX3_seeingInRow_29 : decode cX3_seeingInRow 29 = .ok (.iinc 3 1, 3) := by decide +kernel
theorem dX3_seeingInRow_32 : decode cX3_seeingInRow 32 = .ok (.goto (-28), 3) := by decide +kernel
theorem dX3_seeingInRow_35 : decode cX3_seeingInRow 35 = .ok (.iload_n 2, 1) := by decide +kernel
theorem dX3_seeingInRow_36 : decode cX3_seeingInRow 36 = .ok (.ireturn, 1) := by decide +kernel
set_option maxRecDepth 20000 in
theorem ggX3_seeing_X3_seeingInRow : GoodIn wsX3_seeing wsX3_seeingInRow := goodIn_r _ [7, 1, 8, 9, 10, 11, 6, 12, 13, 14, 15, 16, 17, 18, 19, 20, 21, 22, 23, 24, 25, 26, 27, 28, 29, 30, 31, 32, 33, 34, 35, 36] (by decide +kernel) (by decide +kernel)
set_option maxRecDepth 20000 in
theorem gX3_seeing_X3_seeingInRow : GoodIn wsX3_seeing (wsV RX3 68 RX3 yX3_seeingInRow wsX3_seeingInRow) := goodIn_app (goodIn_of _ (by decide +kernel)) ggX3_seeing_X3_seeingInRow
theorem dX3_seeing_0 : decode cX3_seeing 0 = .ok (.iconst 0, 1) := by decide +kernel
theorem dX3_seeing_1 : decode cX3_seeing 1 = .ok (.istore_n 1, 1) := by decide +kernel
theorem dX3_seeing_2 : decode cX3_seeing 2 = .ok (.iconst 0, 1) := by decide +kernel
theorem dX3_seeing_3 : decode cX3_seeing 3 = .ok (.istore_n 2, 1) := by decide +kernel
theorem dX3_seeing_4 : decode cX3_seeing 4 = .ok (.iload_n 2, 1) := by decide +kernel
theorem dX3_seeing_5 : decode cX3_seeing 5 = .ok (.aload_n 0, 1) := by decide +kernel
theorem dX3_seeing_6 : decode cX3_seeing 6 = .ok (.getfield 12, 3) := by decide +kernel
theorem dX3_seeing_9 : decode cX3_seeing 9 = .ok (.getfield 32, 3) := by decide +kernel
theorem dX3_seeing_12 : decode cX3_seeing 12 = .ok (.if_icmp .ge 17, 3) := by decide +kernel
theorem dX3_seeing_15 : decode cX3_seeing 15 = .ok (.iload_n 1, 1) := by decide +kernel
theorem dX3_seeing_16 : decode cX3_seeing 16 = .ok (.aload_n 0, 1) := by decide +kernel
theorem dX3_seeing_17 : decode cX3_seeing 17 = .ok (.iload_n 2, 1) := by decide +kernel
theorem dX3_seeing_18 : decode cX3_seeing 18 = .ok (.invokevirtual 68, 3) := by decide +kernel
theorem dX3_seeing_21 : decode cX3_seeing 21 = .ok (.iadd, 1) := by decide +kernel
theorem dX3_seeing_22 : decode cX3_seeing 22 = .ok (.istore_n 1, 1) := by decide +kernel
theorem dX3_seeing_23 : decode cX3_seeing 23 = .ok (.iinc 2 1, 3) := by decide +kernel
theorem dX3_seeing_26 : decode cX3_seeing 26 = .ok (.goto (-22), 3) := by decide +kernel
theorem dX3_seeing_29 : decode cX3_seeing 29 = .ok (.iload_n 1, 1) := by decide +kernel
theorem dX3_seeing_30 : decode cX3_seeing 30 = .ok (.ireturn, 1) := by decide +kernel
set_option maxRecDepth 20000 in
theorem ggX3_takenSeeing_X0_isTaken : GoodIn wsX3_takenSeeing wsX0_isTaken := goodIn_r _ [8, 9, 29, 30, 31, 32, 33, 34, 35, 36, 37, 38] (by decide +kernel) (by decide +kernel)
set_option maxRecDepth 20000 in
theorem gX3_takenSeeing_X0_isTaken : GoodIn wsX3_takenSeeing (wsV RX3 71 RX0 yX0_isTaken wsX0_isTaken) := goodIn_app (goodIn_of _ (by decide +kernel)) ggX3_takenSeeing_X0_isTaken
set_option maxRecDepth 20000 in
theorem ggX3_takenSeeing_X3_sees : GoodIn wsX3_takenSeeing wsX3_sees := goodIn_r _ [14, 15, 16, 17, 13, 18, 19, 20, 21, 22, 23, 24, 25, 26, 27, 28] (by decide +kernel) (by decide +kernel)
set_option maxRecDepth 20000 in
theorem gX3_takenSeeing_X3_sees : GoodIn wsX3_takenSeeing (wsV RX3 64 RX3 yX3_sees wsX3_sees) := goodIn_app (goodIn_of _ (by decide +kernel)) ggX3_takenSeeing_X3_sees
theorem dX3_takenSeeing_0 : decode cX3_takenSeeing 0 = .ok (.iconst 0, 1) := by decide +kernel
theorem dX3_takenSeeing_1 : decode cX3_takenSeeing 1 = .ok (.istore_n 1, 1) := by decide +kernel
theorem dX3_takenSeeing_2 : decode cX3_takenSeeing 2 = .ok (.iconst 0, 1) := by decide +kernel
theorem dX3_takenSeeing_3 : decode cX3_takenSeeing 3 = .ok (.istore_n 2, 1) := by decide +kernel
theorem dX3_takenSeeing_4 : decode cX3_takenSeeing 4 = .ok (.iload_n 2, 1) := by decide +kernel
theorem dX3_takenSeeing_5 : decode cX3_takenSeeing 5 = .ok (.aload_n 0, 1) := by decide +kernel
theorem dX3_takenSeeing_6 : decode cX3_takenSeeing 6 = .ok (.getfield 12, 3) := by decide +kernel
theorem dX3_takenSeeing_9 : decode cX3_takenSeeing 9 = .ok (.getfield 32, 3) := by decide +kernel
theorem dX3_takenSeeing_12 : decode cX3_takenSeeing 12 = .ok (.if_icmp .ge 54, 3) := by decide +kernel
theorem dX3_takenSeeing_15 : decode cX3_takenSeeing 15 = .ok (.iconst 0, 1) := by decide +kernel
theorem dX3_takenSeeing_16 : decode cX3_takenSeeing 16 = .ok (.istore_n 3, 1) := by decide +kernel
theorem dX3_takenSeeing_17 : decode cX3_takenSeeing 17 = .ok (.iload_n 3, 1) := by decide +kernel
theorem dX3_takenSeeing_18 : decode cX3_takenSeeing 18 = .ok (.aload_n 0, 1) := by decide +kernel
theorem dX3_takenSeeing_19 : decode cX3_takenSeeing 19 = .ok (.getfield 12, 3) := by decide +kernel
theorem dX3_takenSeeing_22 : decode cX3_takenSeeing 22 = .ok (.getfield 36, 3) := by decide +kernel
theorem dX3_takenSeeing_25 : decode cX3_takenSeeing 25 = .ok (.iload_n 2, 1) := by decide +kernel
theorem dX3_takenSeeing_26 : decode cX3_takenSeeing 26 = .ok (.iaload, 1) := by decide +kernel
theorem dX3_takenSeeing_27 : decode cX3_takenSeeing 27 = .ok (.if_icmp .ge 33, 3) := by decide +kernel
theorem dX3_takenSeeing_30 : decode cX3_takenSeeing 30 = .ok (.aload_n 0, 1) := by decide +kernel
theorem dX3_takenSeeing_31 : decode cX3_takenSeeing 31 = .ok (.getfield 12, 3) := by decide +kernel
theorem dX3_takenSeeing_34 : decode cX3_takenSeeing 34 = .ok (.iload_n 2, 1) := by decide +kernel
theorem dX3_takenSeeing_35 : decode cX3_takenSeeing 35 = .ok (.iload_n 3, 1) := by decide +kernel
theorem dX3_takenSeeing_36 : decode cX3_takenSeeing 36 = .ok (.invokevirtual 71, 3) := by decide +kernel
theorem dX3_takenSeeing_39 : decode cX3_takenSeeing 39 = .ok (.ifCond .eq 15, 3) := by decide +kernel
theorem dX3_takenSeeing_42 : decode cX3_takenSeeing 42 = .ok (.aload_n 0, 1) := by decide +kernel
theorem dX3_takenSeeing_43 : decode cX3_takenSeeing 43 = .ok (.iload_n 2, 1) := by decide +kernel
theorem dX3_takenSeeing_44 : decode cX3_takenSeeing 44 = .ok (.iload_n 3, 1) := by decide +kernel
theorem dX3_takenSeeing_45 : decode cX3_takenSeeing 45 = .ok (.invokevirtual 64, 3) := by decide +kernel
theorem dX3_takenSeeing_48 : decode cX3_takenSeeing 48 = .ok (.ifCond .eq 6, 3) := by decide +kernel
theorem dX3_takenSeeing_51 : decode cX3_takenSeeing 51 = .ok (.iinc 1 1, 3) := by decide +kernel
theorem dX3_takenSeeing_54 : decode cX3_takenSeeing 54 = .ok (.iinc 3 1, 3) := by decide +kernel
theorem dX3_takenSeeing_57 : decode cX3_takenSeeing 57 = .ok (.goto (-40), 3) := by decide +kernel
theorem dX3_takenSeeing_60 : decode cX3_takenSeeing 60 = .ok (.iinc 2 1, 3) := by decide +kernel
theorem dX3_takenSeeing_63 : decode cX3_takenSeeing 63 = .ok (.goto (-59), 3) := by decide +kernel
theorem dX3_takenSeeing_66 : decode cX3_takenSeeing 66 = .ok (.iload_n 1, 1) := by decide +kernel
theorem dX3_takenSeeing_67 : decode cX3_takenSeeing 67 = .ok (.ireturn, 1) := by decide +kernel
set_option maxRecDepth 20000 in
theorem ggX3_pairsInWay_X0_isTaken : GoodIn wsX3_pairsInWay wsX0_isTaken := goodIn_r _ [9, 10, 20, 21, 22, 23, 24, 25, 26, 27, 28, 29] (by decide +kernel) (by decide +kernel)
set_option maxRecDepth 20000 in
theorem gX3_pairsInWay_X0_isTaken : GoodIn wsX3_pairsInWay (wsV RX3 71 RX0 yX0_isTaken wsX0_isTaken) := goodIn_app (goodIn_of _ (by decide +kernel)) ggX3_pairsInWay_X0_isTaken
set_option maxRecDepth 20000 in
theorem ggX3_pairsInWay_X3_cellOf : GoodIn wsX3_pairsInWay wsX3_cellOf := goodIn_r _ [14] (by decide +kernel) (by decide +kernel)
set_option maxRecDepth 20000 in
theorem gX3_pairsInWay_X3_cellOf : GoodIn wsX3_pairsInWay (va_wsS RX3 39 yX3_cellOf wsX3_cellOf) := goodIn_app (goodIn_of _ (by decide +kernel)) ggX3_pairsInWay_X3_cellOf
theorem dX3_pairsInWay_0 : decode cX3_pairsInWay 0 = .ok (.iconst 0, 1) := by decide +kernel
theorem dX3_pairsInWay_1 : decode cX3_pairsInWay 1 = .ok (.istore_n 1, 1) := by decide +kernel
theorem dX3_pairsInWay_2 : decode cX3_pairsInWay 2 = .ok (.iconst 0, 1) := by decide +kernel
theorem dX3_pairsInWay_3 : decode cX3_pairsInWay 3 = .ok (.istore_n 2, 1) := by decide +kernel
theorem dX3_pairsInWay_4 : decode cX3_pairsInWay 4 = .ok (.iload_n 2, 1) := by decide +kernel
theorem dX3_pairsInWay_5 : decode cX3_pairsInWay 5 = .ok (.aload_n 0, 1) := by decide +kernel
theorem dX3_pairsInWay_6 : decode cX3_pairsInWay 6 = .ok (.getfield 12, 3) := by decide +kernel
theorem dX3_pairsInWay_9 : decode cX3_pairsInWay 9 = .ok (.getfield 32, 3) := by decide +kernel
theorem dX3_pairsInWay_12 : decode cX3_pairsInWay 12 = .ok (.if_icmp .ge 55, 3) := by decide +kernel
theorem dX3_pairsInWay_15 : decode cX3_pairsInWay 15 = .ok (.iconst 0, 1) := by decide +kernel
theorem dX3_pairsInWay_16 : decode cX3_pairsInWay 16 = .ok (.istore_n 3, 1) := by decide +kernel
theorem dX3_pairsInWay_17 : decode cX3_pairsInWay 17 = .ok (.iload_n 3, 1) := by decide +kernel
theorem dX3_pairsInWay_18 : decode cX3_pairsInWay 18 = .ok (.aload_n 0, 1) := by decide +kernel
theorem dX3_pairsInWay_19 : decode cX3_pairsInWay 19 = .ok (.getfield 12, 3) := by decide +kernel
theorem dX3_pairsInWay_22 : decode cX3_pairsInWay 22 = .ok (.getfield 36, 3) := by decide +kernel
theorem dX3_pairsInWay_25 : decode cX3_pairsInWay 25 = .ok (.iload_n 2, 1) := by decide +kernel
theorem dX3_pairsInWay_26 : decode cX3_pairsInWay 26 = .ok (.iaload, 1) := by decide +kernel
theorem dX3_pairsInWay_27 : decode cX3_pairsInWay 27 = .ok (.if_icmp .ge 34, 3) := by decide +kernel
theorem dX3_pairsInWay_30 : decode cX3_pairsInWay 30 = .ok (.aload_n 0, 1) := by decide +kernel
theorem dX3_pairsInWay_31 : decode cX3_pairsInWay 31 = .ok (.getfield 12, 3) := by decide +kernel
theorem dX3_pairsInWay_34 : decode cX3_pairsInWay 34 = .ok (.iload_n 2, 1) := by decide +kernel
theorem dX3_pairsInWay_35 : decode cX3_pairsInWay 35 = .ok (.iload_n 3, 1) := by decide +kernel
theorem dX3_pairsInWay_36 : decode cX3_pairsInWay 36 = .ok (.invokevirtual 71, 3) := by decide +kernel
theorem dX3_pairsInWay_39 : decode cX3_pairsInWay 39 = .ok (.ifCond .eq 16, 3) := by decide +kernel
theorem dX3_pairsInWay_42 : decode cX3_pairsInWay 42 = .ok (.iload_n 1, 1) := by decide +kernel
theorem dX3_pairsInWay_43 : decode cX3_pairsInWay 43 = .ok (.aload_n 0, 1) := by decide +kernel
theorem dX3_pairsInWay_44 : decode cX3_pairsInWay 44 = .ok (.getfield 18, 3) := by decide +kernel
theorem dX3_pairsInWay_47 : decode cX3_pairsInWay 47 = .ok (.iload_n 2, 1) := by decide +kernel
theorem dX3_pairsInWay_48 : decode cX3_pairsInWay 48 = .ok (.iload_n 3, 1) := by decide +kernel
theorem dX3_pairsInWay_49 : decode cX3_pairsInWay 49 = .ok (.invokestatic 39, 3) := by decide +kernel
theorem dX3_pairsInWay_52 : decode cX3_pairsInWay 52 = .ok (.iaload, 1) := by decide +kernel
theorem dX3_pairsInWay_53 : decode cX3_pairsInWay 53 = .ok (.iadd, 1) := by decide +kernel
theorem dX3_pairsInWay_54 : decode cX3_pairsInWay 54 = .ok (.istore_n 1, 1) := by decide +kernel
theorem dX3_pairsInWay_55 : decode cX3_pairsInWay 55 = .ok (.iinc 3 1, 3) := by decide +kernel
theorem dX3_pairsInWay_58 : decode cX3_pairsInWay 58 = .ok (.goto (-41), 3) := by decide +kernel
theorem dX3_pairsInWay_61 : decode cX3_pairsInWay 61 = .ok (.iinc 2 1, 3) := by decide +kernel
theorem dX3_pairsInWay_64 : decode cX3_pairsInWay 64 = .ok (.goto (-60), 3) := by decide +kernel
theorem dX3_pairsInWay_67 : decode cX3_pairsInWay 67 = .ok (.iload_n 1, 1) := by decide +kernel
theorem dX3_pairsInWay_68 : decode cX3_pairsInWay 68 = .ok (.ireturn, 1) := by decide +kernel
set_option maxRecDepth 20000 in
theorem ggX3_placeOf_X3_cellOf : GoodIn wsX3_placeOf wsX3_cellOf := goodIn_r _ [8] (by decide +kernel) (by decide +kernel)
set_option maxRecDepth 20000 in
theorem gX3_placeOf_X3_cellOf : GoodIn wsX3_placeOf (va_wsS RX3 39 yX3_cellOf wsX3_cellOf) := goodIn_app (goodIn_of _ (by decide +kernel)) ggX3_placeOf_X3_cellOf
set_option maxRecDepth 20000 in
theorem ggX3_placeOf_X0_isTaken : GoodIn wsX3_placeOf wsX0_isTaken := goodIn_r _ [13, 14, 20, 21, 22, 23, 24, 25, 26, 27, 28, 29] (by decide +kernel) (by decide +kernel)
set_option maxRecDepth 20000 in
theorem gX3_placeOf_X0_isTaken : GoodIn wsX3_placeOf (wsV RX3 71 RX0 yX0_isTaken wsX0_isTaken) := goodIn_app (goodIn_of _ (by decide +kernel)) ggX3_placeOf_X0_isTaken
theorem dX3_placeOf_0 : decode cX3_placeOf 0 = .ok (.aload_n 0, 1) := by decide +kernel
theorem dX3_placeOf_1 : decode cX3_placeOf 1 = .ok (.getfield 25, 3) := by decide +kernel
theorem dX3_placeOf_4 : decode cX3_placeOf 4 = .ok (.iload_n 1, 1) := by decide +kernel
theorem dX3_placeOf_5 : decode cX3_placeOf 5 = .ok (.iload_n 2, 1) := by decide +kernel
theorem dX3_placeOf_6 : decode cX3_placeOf 6 = .ok (.invokestatic 39, 3) := by decide +kernel
theorem dX3_placeOf_9 : decode cX3_placeOf 9 = .ok (.iaload, 1) := by decide +kernel
theorem dX3_placeOf_10 : decode cX3_placeOf 10 = .ok (.istore 4, 2) := by decide +kernel
theorem dX3_placeOf_12 : decode cX3_placeOf 12 = .ok (.iconst 0, 1) := by decide +kernel
theorem dX3_placeOf_13 : decode cX3_placeOf 13 = .ok (.istore 5, 2) := by decide +kernel
theorem dX3_placeOf_15 : decode cX3_placeOf 15 = .ok (.iconst 0, 1) := by decide +kernel
theorem dX3_placeOf_16 : decode cX3_placeOf 16 = .ok (.istore 6, 2) := by decide +kernel
theorem dX3_placeOf_18 : decode cX3_placeOf 18 = .ok (.iload 6, 2) := by decide +kernel
theorem dX3_placeOf_20 : decode cX3_placeOf 20 = .ok (.aload_n 0, 1) := by decide +kernel
theorem dX3_placeOf_21 : decode cX3_placeOf 21 = .ok (.getfield 12, 3) := by decide +kernel
theorem dX3_placeOf_24 : decode cX3_placeOf 24 = .ok (.getfield 32, 3) := by decide +kernel
theorem dX3_placeOf_27 : decode cX3_placeOf 27 = .ok (.if_icmp .ge 83, 3) := by decide +kernel
theorem dX3_placeOf_30 : decode cX3_placeOf 30 = .ok (.iconst 0, 1) := by decide +kernel
theorem dX3_placeOf_31 : decode cX3_placeOf 31 = .ok (.istore 7, 2) := by decide +kernel
theorem dX3_placeOf_33 : decode cX3_placeOf 33 = .ok (.iload 7, 2) := by decide +kernel
theorem dX3_placeOf_35 : decode cX3_placeOf 35 = .ok (.aload_n 0, 1) := by decide +kernel
theorem dX3_placeOf_36 : decode cX3_placeOf 36 = .ok (.getfield 12, 3) := by decide +kernel
theorem dX3_placeOf_39 : decode cX3_placeOf 39 = .ok (.getfield 36, 3) := by decide +kernel
theorem dX3_placeOf_42 : decode cX3_placeOf 42 = .ok (.iload 6, 2) := by decide +kernel
theorem dX3_placeOf_44 : decode cX3_placeOf 44 = .ok (.iaload, 1) := by decide +kernel
theorem dX3_placeOf_45 : decode cX3_placeOf 45 = .ok (.if_icmp .ge 59, 3) := by decide +kernel
theorem dX3_placeOf_48 : decode cX3_placeOf 48 = .ok (.iload_n 3, 1) := by decide +kernel
theorem dX3_placeOf_49 : decode cX3_placeOf 49 = .ok (.ifCond .eq 17, 3) := by decide +kernel
theorem dX3_placeOf_52 : decode cX3_placeOf 52 = .ok (.aload_n 0, 1) := by decide +kernel
theorem dX3_placeOf_53 : decode cX3_placeOf 53 = .ok (.getfield 12, 3) := by decide +kernel
theorem dX3_placeOf_56 : decode cX3_placeOf 56 = .ok (.iload 6, 2) := by decide +kernel
theorem dX3_placeOf_58 : decode cX3_placeOf 58 = .ok (.iload 7, 2) := by decide +kernel
theorem dX3_placeOf_60 : decode cX3_placeOf 60 = .ok (.invokevirtual 71, 3) := by decide +kernel
theorem dX3_placeOf_63 : decode cX3_placeOf 63 = .ok (.ifCond .ne 7, 3) := by decide +kernel
theorem dX3_placeOf_66 : decode cX3_placeOf 66 = .ok (.iconst 1, 1) := by decide +kernel
theorem dX3_placeOf_67 : decode cX3_placeOf 67 = .ok (.goto 4, 3) := by decide +kernel
theorem dX3_placeOf_70 : decode cX3_placeOf 70 = .ok (.iconst 0, 1) := by decide +kernel
theorem dX3_placeOf_71 : decode cX3_placeOf 71 = .ok (.istore 8, 2) := by decide +kernel
theorem dX3_placeOf_73 : decode cX3_placeOf 73 = .ok (.iload 8, 2) := by decide +kernel
theorem dX3_placeOf_75 : decode cX3_placeOf 75 = .ok (.ifCond .eq 23, 3) := by decide +kernel
theorem dX3_placeOf_78 : decode cX3_placeOf 78 = .ok (.aload_n 0, 1) := by decide +kernel
theorem dX3_placeOf_79 : decode cX3_placeOf 79 = .ok (.getfield 25, 3) := by decide +kernel
theorem dX3_placeOf_82 : decode cX3_placeOf 82 = .ok (.iload 6, 2) := by decide +kernel
theorem dX3_placeOf_84 : decode cX3_placeOf 84 = .ok (.iload 7, 2) := by decide +kernel
theorem dX3_placeOf_86 : decode cX3_placeOf 86 = .ok (.invokestatic 39, 3) := by decide +kernel
theorem dX3_placeOf_89 : decode cX3_placeOf 89 = .ok (.iaload, 1) := by decide +kernel
theorem dX3_placeOf_90 : decode cX3_placeOf 90 = .ok (.iload 4, 2) := by decide +kernel
theorem dX3_placeOf_92 : decode cX3_placeOf 92 = .ok (.if_icmp .ge 6, 3) := by decide +kernel
theorem dX3_placeOf_95 : decode cX3_placeOf 95 = .ok (.iinc 5 1, 3) := by decide +kernel
theorem dX3_placeOf_98 : decode cX3_placeOf 98 = .ok (.iinc 7 1, 3) := by decide +kernel
theorem dX3_placeOf_101 : decode cX3_placeOf 101 = .ok (.goto (-68), 3) := by decide +kernel
theorem dX3_placeOf_104 : decode cX3_placeOf 104 = .ok (.iinc 6 1, 3) := by decide +kernel
theorem dX3_placeOf_107 : decode cX3_placeOf 107 = .ok (.goto (-89), 3) := by decide +kernel
theorem dX3_placeOf_110 : decode cX3_placeOf 110 = .ok (.iload 5, 2) := by decide +kernel
theorem dX3_placeOf_112 : decode cX3_placeOf 112 = .ok (.ireturn, 1) := by decide +kernel
set_option maxRecDepth 20000 in
theorem ggX3_freeSeatAt_X0_isTaken : GoodIn wsX3_freeSeatAt wsX0_isTaken := goodIn_r _ [8, 9, 24, 25, 26, 27, 28, 29, 30, 31, 32, 33] (by decide +kernel) (by decide +kernel)
set_option maxRecDepth 20000 in
theorem gX3_freeSeatAt_X0_isTaken : GoodIn wsX3_freeSeatAt (wsV RX3 71 RX0 yX0_isTaken wsX0_isTaken) := goodIn_app (goodIn_of _ (by decide +kernel)) ggX3_freeSeatAt_X0_isTaken
set_option maxRecDepth 20000 in
theorem ggX3_freeSeatAt_X3_placeOf : GoodIn wsX3_freeSeatAt wsX3_placeOf := goodIn_r _ [14, 15, 1, 2, 3, 16, 17, 13, 18, 4, 5, 6, 7, 8, 9, 19, 20, 21, 22, 23, 24, 25, 26, 27, 28, 29, 30, 31, 32, 33] (by decide +kernel) (by decide +kernel)
set_option maxRecDepth 20000 in
theorem gX3_freeSeatAt_X3_placeOf : GoodIn wsX3_freeSeatAt (wsV RX3 74 RX3 yX3_placeOf wsX3_placeOf) := goodIn_app (goodIn_of _ (by decide +kernel)) ggX3_freeSeatAt_X3_placeOf
theorem dX3_freeSeatAt_0 : decode cX3_freeSeatAt 0 = .ok (.iconst 0, 1) := by decide +kernel
theorem dX3_freeSeatAt_1 : decode cX3_freeSeatAt 1 = .ok (.istore_n 2, 1) := by decide +kernel
theorem dX3_freeSeatAt_2 : decode cX3_freeSeatAt 2 = .ok (.iload_n 2, 1) := by decide +kernel
theorem dX3_freeSeatAt_3 : decode cX3_freeSeatAt 3 = .ok (.aload_n 0, 1) := by decide +kernel
theorem dX3_freeSeatAt_4 : decode cX3_freeSeatAt 4 = .ok (.getfield 12, 3) := by decide +kernel
theorem dX3_freeSeatAt_7 : decode cX3_freeSeatAt 7 = .ok (.getfield 32, 3) := by decide +kernel
theorem dX3_freeSeatAt_10 : decode cX3_freeSeatAt 10 = .ok (.if_icmp .ge 60, 3) := by decide +kernel
theorem dX3_freeSeatAt_13 : decode cX3_freeSeatAt 13 = .ok (.iconst 0, 1) := by decide +kernel
theorem dX3_freeSeatAt_14 : decode cX3_freeSeatAt 14 = .ok (.istore_n 3, 1) := by decide +kernel
theorem dX3_freeSeatAt_15 : decode cX3_freeSeatAt 15 = .ok (.iload_n 3, 1) := by decide +kernel
theorem dX3_freeSeatAt_16 : decode cX3_freeSeatAt 16 = .ok (.aload_n 0, 1) := by decide +kernel
theorem dX3_freeSeatAt_17 : decode cX3_freeSeatAt 17 = .ok (.getfield 12, 3) := by decide +kernel
theorem dX3_freeSeatAt_20 : decode cX3_freeSeatAt 20 = .ok (.getfield 36, 3) := by decide +kernel
theorem dX3_freeSeatAt_23 : decode cX3_freeSeatAt 23 = .ok (.iload_n 2, 1) := by decide +kernel
theorem dX3_freeSeatAt_24 : decode cX3_freeSeatAt 24 = .ok (.iaload, 1) := by decide +kernel
theorem dX3_freeSeatAt_25 : decode cX3_freeSeatAt 25 = .ok (.if_icmp .ge 39, 3) := by decide +kernel
theorem dX3_freeSeatAt_28 : decode cX3_freeSeatAt 28 = .ok (.aload_n 0, 1) := by decide +kernel
theorem dX3_freeSeatAt_29 : decode cX3_freeSeatAt 29 = .ok (.getfield 12, 3) := by decide +kernel
theorem dX3_freeSeatAt_32 : decode cX3_freeSeatAt 32 = .ok (.iload_n 2, 1) := by decide +kernel
theorem dX3_freeSeatAt_33 : decode cX3_freeSeatAt 33 = .ok (.iload_n 3, 1) := by decide +kernel
theorem dX3_freeSeatAt_34 : decode cX3_freeSeatAt 34 = .ok (.invokevirtual 71, 3) := by decide +kernel
theorem dX3_freeSeatAt_37 : decode cX3_freeSeatAt 37 = .ok (.ifCond .ne 21, 3) := by decide +kernel
theorem dX3_freeSeatAt_40 : decode cX3_freeSeatAt 40 = .ok (.aload_n 0, 1) := by decide +kernel
theorem dX3_freeSeatAt_41 : decode cX3_freeSeatAt 41 = .ok (.iload_n 2, 1) := by decide +kernel
theorem dX3_freeSeatAt_42 : decode cX3_freeSeatAt 42 = .ok (.iload_n 3, 1) := by decide +kernel
theorem dX3_freeSeatAt_43 : decode cX3_freeSeatAt 43 = .ok (.iconst 1, 1) := by decide +kernel
theorem dX3_freeSeatAt_44 : decode cX3_freeSeatAt 44 = .ok (.invokevirtual 74, 3) := by decide +kernel
theorem dX3_freeSeatAt_47 : decode cX3_freeSeatAt 47 = .ok (.iload_n 1, 1) := by decide +kernel
theorem dX3_freeSeatAt_48 : decode cX3_freeSeatAt 48 = .ok (.if_icmp .ne 10, 3) := by decide +kernel
theorem dX3_freeSeatAt_51 : decode cX3_freeSeatAt 51 = .ok (.bipush 100, 2) := by decide +kernel
theorem dX3_freeSeatAt_53 : decode cX3_freeSeatAt 53 = .ok (.iload_n 2, 1) := by decide +kernel
theorem dX3_freeSeatAt_54 : decode cX3_freeSeatAt 54 = .ok (.imul, 1) := by decide +kernel
theorem dX3_freeSeatAt_55 : decode cX3_freeSeatAt 55 = .ok (.iload_n 3, 1) := by decide +kernel
theorem dX3_freeSeatAt_56 : decode cX3_freeSeatAt 56 = .ok (.iadd, 1) := by decide +kernel
theorem dX3_freeSeatAt_57 : decode cX3_freeSeatAt 57 = .ok (.ireturn, 1) := by decide +kernel
theorem dX3_freeSeatAt_58 : decode cX3_freeSeatAt 58 = .ok (.iinc 3 1, 3) := by decide +kernel
theorem dX3_freeSeatAt_61 : decode cX3_freeSeatAt 61 = .ok (.goto (-46), 3) := by decide +kernel
theorem dX3_freeSeatAt_64 : decode cX3_freeSeatAt 64 = .ok (.iinc 2 1, 3) := by decide +kernel
theorem dX3_freeSeatAt_67 : decode cX3_freeSeatAt 67 = .ok (.goto (-65), 3) := by decide +kernel
theorem dX3_freeSeatAt_70 : decode cX3_freeSeatAt 70 = .ok (.iconst (-1), 1) := by decide +kernel
theorem dX3_freeSeatAt_71 : decode cX3_freeSeatAt 71 = .ok (.ireturn, 1) := by decide +kernel
set_option maxRecDepth 20000 in
theorem ggX3_placeForParty_X3_allInWayOfParty : GoodIn wsX3_placeForParty wsX3_allInWayOfParty := goodIn_r _ [8, 9, 10, 11, 7, 12, 13, 14, 15, 16, 17, 27, 28, 29, 30, 31] (by decide +kernel) (by decide +kernel)
set_option maxRecDepth 20000 in
theorem gX3_placeForParty_X3_allInWayOfParty : GoodIn wsX3_placeForParty (wsV RX3 78 RX3 yX3_allInWayOfParty wsX3_allInWayOfParty) := goodIn_app (goodIn_of _ (by decide +kernel)) ggX3_placeForParty_X3_allInWayOfParty
set_option maxRecDepth 20000 in
theorem ggX3_placeForParty_X0_areFree : GoodIn wsX3_placeForParty wsX0_areFree := goodIn_r _ [22, 23, 24, 25, 21, 26, 32, 33, 34, 35, 36, 37, 38, 39, 40, 41] (by decide +kernel) (by decide +kernel)
set_option maxRecDepth 20000 in
theorem gX3_placeForParty_X0_areFree : GoodIn wsX3_placeForParty (wsV RX3 82 RX0 yX0_areFree wsX0_areFree) := goodIn_app (goodIn_of _ (by decide +kernel)) ggX3_placeForParty_X0_areFree
theorem dX3_placeForParty_0 : decode cX3_placeForParty 0 = .ok (.iconst (-1), 1) := by decide +kernel
theorem dX3_placeForParty_1 : decode cX3_placeForParty 1 = .ok (.istore_n 2, 1) := by decide +kernel
theorem dX3_placeForParty_2 : decode cX3_placeForParty 2 = .ok (.iconst 0, 1) := by decide +kernel
theorem dX3_placeForParty_3 : decode cX3_placeForParty 3 = .ok (.istore_n 3, 1) := by decide +kernel
theorem dX3_placeForParty_4 : decode cX3_placeForParty 4 = .ok (.iconst 0, 1) := by decide +kernel
theorem dX3_placeForParty_5 : decode cX3_placeForParty 5 = .ok (.istore 4, 2) := by decide +kernel
theorem dX3_placeForParty_7 : decode cX3_placeForParty 7 = .ok (.iload 4, 2) := by decide +kernel
theorem dX3_placeForParty_9 : decode cX3_placeForParty 9 = .ok (.aload_n 0, 1) := by decide +kernel
theorem dX3_placeForParty_10 : decode cX3_placeForParty 10 = .ok (.getfield 12, 3) := by decide +kernel
theorem dX3_placeForParty_13 : decode cX3_placeForParty 13 = .ok (.getfield 32, 3) := by decide +kernel
theorem dX3_placeForParty_16 : decode cX3_placeForParty 16 = .ok (.if_icmp .ge 84, 3) := by decide +kernel
theorem dX3_placeForParty_19 : decode cX3_placeForParty 19 = .ok (.iconst 0, 1) := by decide +kernel
theorem dX3_placeForParty_20 : decode cX3_placeForParty 20 = .ok (.istore 5, 2) := by decide +kernel
theorem dX3_placeForParty_22 : decode cX3_placeForParty 22 = .ok (.iload 5, 2) := by decide +kernel
theorem dX3_placeForParty_24 : decode cX3_placeForParty 24 = .ok (.iload_n 1, 1) := by decide +kernel
theorem dX3_placeForParty_25 : decode cX3_placeForParty 25 = .ok (.iadd, 1) := by decide +kernel
theorem dX3_placeForParty_26 : decode cX3_placeForParty 26 = .ok (.aload_n 0, 1) := by decide +kernel
theorem dX3_placeForParty_27 : decode cX3_placeForParty 27 = .ok (.getfield 12, 3) := by decide +kernel
theorem dX3_placeForParty_30 : decode cX3_placeForParty 30 = .ok (.getfield 36, 3) := by decide +kernel
theorem dX3_placeForParty_33 : decode cX3_placeForParty 33 = .ok (.iload 4, 2) := by decide +kernel
theorem dX3_placeForParty_35 : decode cX3_placeForParty 35 = .ok (.iaload, 1) := by decide +kernel
theorem dX3_placeForParty_36 : decode cX3_placeForParty 36 = .ok (.if_icmp .gt 58, 3) := by decide +kernel
theorem dX3_placeForParty_39 : decode cX3_placeForParty 39 = .ok (.aload_n 0, 1) := by decide +kernel
theorem dX3_placeForParty_40 : decode cX3_placeForParty 40 = .ok (.iload 4, 2) := by decide +kernel
theorem dX3_placeForParty_42 : decode cX3_placeForParty 42 = .ok (.iload 5, 2) := by decide +kernel
theorem dX3_placeForParty_44 : decode cX3_placeForParty 44 = .ok (.iload_n 1, 1) := by decide +kernel
theorem dX3_placeForParty_45 : decode cX3_placeForParty 45 = .ok (.invokevirtual 78, 3) := by decide +kernel
theorem dX3_placeForParty_48 : decode cX3_placeForParty 48 = .ok (.istore 6, 2) := by decide +kernel
theorem dX3_placeForParty_50 : decode cX3_placeForParty 50 = .ok (.aload_n 0, 1) := by decide +kernel
theorem dX3_placeForParty_51 : decode cX3_placeForParty 51 = .ok (.getfield 12, 3) := by decide +kernel
theorem dX3_placeForParty_54 : decode cX3_placeForParty 54 = .ok (.iload 4, 2) := by decide +kernel
theorem dX3_placeForParty_56 : decode cX3_placeForParty 56 = .ok (.iload 5, 2) := by decide +kernel
theorem dX3_placeForParty_58 : decode cX3_placeForParty 58 = .ok (.iload_n 1, 1) := by decide +kernel
theorem dX3_placeForParty_59 : decode cX3_placeForParty 59 = .ok (.invokevirtual 82, 3) := by decide +kernel
theorem dX3_placeForParty_62 : decode cX3_placeForParty 62 = .ok (.ifCond .eq 26, 3) := by decide +kernel
theorem dX3_placeForParty_65 : decode cX3_placeForParty 65 = .ok (.iload_n 2, 1) := by decide +kernel
theorem dX3_placeForParty_66 : decode cX3_placeForParty 66 = .ok (.iconst (-1), 1) := by decide +kernel
theorem dX3_placeForParty_67 : decode cX3_placeForParty 67 = .ok (.if_icmp .eq 9, 3) := by decide +kernel
theorem dX3_placeForParty_70 : decode cX3_placeForParty 70 = .ok (.iload 6, 2) := by decide +kernel
theorem dX3_placeForParty_72 : decode cX3_placeForParty 72 = .ok (.iload_n 3, 1) := by decide +kernel
theorem dX3_placeForParty_73 : decode cX3_placeForParty 73 = .ok (.if_icmp .ge 15, 3) := by decide +kernel
theorem dX3_placeForParty_76 : decode cX3_placeForParty 76 = .ok (.bipush 100, 2) := by decide +kernel
theorem dX3_placeForParty_78 : decode cX3_placeForParty 78 = .ok (.iload 4, 2) := by decide +kernel
theorem dX3_placeForParty_80 : decode cX3_placeForParty 80 = .ok (.imul, 1) := by decide +kernel
theorem dX3_placeForParty_81 : decode cX3_placeForParty 81 = .ok (.iload 5, 2) := by decide +kernel
theorem dX3_placeForParty_83 : decode cX3_placeForParty 83 = .ok (.iadd, 1) := by decide +kernel
theorem dX3_placeForParty_84 : decode cX3_placeForParty 84 = .ok (.istore_n 2, 1) := by decide +kernel
theorem dX3_placeForParty_85 : decode cX3_placeForParty 85 = .ok (.iload 6, 2) := by decide +kernel
theorem dX3_placeForParty_87 : decode cX3_placeForParty 87 = .ok (.istore_n 3, 1) := by decide +kernel
theorem dX3_placeForParty_88 : decode cX3_placeForParty 88 = .ok (.iinc 5 1, 3) := by decide +kernel
theorem dX3_placeForParty_91 : decode cX3_placeForParty 91 = .ok (.goto (-69), 3) := by decide +kernel
theorem dX3_placeForParty_94 : decode cX3_placeForParty 94 = .ok (.iinc 4 1, 3) := by decide +kernel
theorem dX3_placeForParty_97 : decode cX3_placeForParty 97 = .ok (.goto (-90), 3) := by decide +kernel
theorem dX3_placeForParty_100 : decode cX3_placeForParty 100 = .ok (.iload_n 2, 1) := by decide +kernel
theorem dX3_placeForParty_101 : decode cX3_placeForParty 101 = .ok (.ireturn, 1) := by decide +kernel
set_option maxRecDepth 20000 in
theorem ggX3_allInWayOfParty_X3_allInWay : GoodIn wsX3_allInWayOfParty wsX3_allInWay := goodIn_r _ [5, 6, 7, 8, 9, 4, 10, 11, 12, 13, 14, 15] (by decide +kernel) (by decide +kernel)
set_option maxRecDepth 20000 in
theorem gX3_allInWayOfParty_X3_allInWay : GoodIn wsX3_allInWayOfParty (wsV RX3 52 RX3 yX3_allInWay wsX3_allInWay) := goodIn_app (goodIn_of _ (by decide +kernel)) ggX3_allInWayOfParty_X3_allInWay
theorem dX3_allInWayOfParty_0 : decode cX3_allInWayOfParty 0 = .ok (.iconst 0, 1) := by decide +kernel
theorem dX3_allInWayOfParty_1 : decode cX3_allInWayOfParty 1 = .ok (.istore 4, 2) := by decide +kernel
theorem dX3_allInWayOfParty_3 : decode cX3_allInWayOfParty 3 = .ok (.iload_n 2, 1) := by decide +kernel
theorem dX3_allInWayOfParty_4 : decode cX3_allInWayOfParty 4 = .ok (.istore 5, 2) := by decide +kernel
theorem dX3_allInWayOfParty_6 : decode cX3_allInWayOfParty 6 = .ok (.iload 5, 2) := by decide +kernel
theorem dX3_allInWayOfParty_8 : decode cX3_allInWayOfParty 8 = .ok (.iload_n 2, 1) := by decide +kernel
theorem dX3_allInWayOfParty_9 : decode cX3_allInWayOfParty 9 = .ok (.iload_n 3, 1) := by decide +kernel
theorem dX3_allInWayOfParty_10 : decode cX3_allInWayOfParty 10 = .ok (.iadd, 1) := by decide +kernel
theorem dX3_allInWayOfParty_11 : decode cX3_allInWayOfParty 11 = .ok (.if_icmp .ge 21, 3) := by decide +kernel
theorem dX3_allInWayOfParty_14 : decode cX3_allInWayOfParty 14 = .ok (.iload 4, 2) := by decide +kernel
theorem dX3_allInWayOfParty_16 : decode cX3_allInWayOfParty 16 = .ok (.aload_n 0, 1) := by decide +kernel
theorem dX3_allInWayOfParty_17 : decode cX3_allInWayOfParty 17 = .ok (.iload_n 1, 1) := by decide +kernel
theorem dX3_allInWayOfParty_18 : decode cX3_allInWayOfParty 18 = .ok (.iload 5, 2) := by decide +kernel
theorem dX3_allInWayOfParty_20 : decode cX3_allInWayOfParty 20 = .ok (.invokevirtual 52, 3) := by decide +kernel
theorem dX3_allInWayOfParty_23 : decode cX3_allInWayOfParty 23 = .ok (.iadd, 1) := by decide +kernel
theorem dX3_allInWayOfParty_24 : decode cX3_allInWayOfParty 24 = .ok (.istore 4, 2) := by decide +kernel
theorem dX3_allInWayOfParty_26 : decode cX3_allInWayOfParty 26 = .ok (.iinc 5 1, 3) := by decide +kernel
theorem dX3_allInWayOfParty_29 : decode cX3_allInWayOfParty 29 = .ok (.goto (-23), 3) := by decide +kernel
theorem dX3_allInWayOfParty_32 : decode cX3_allInWayOfParty 32 = .ok (.iload 4, 2) := by decide +kernel
theorem dX3_allInWayOfParty_34 : decode cX3_allInWayOfParty 34 = .ok (.ireturn, 1) := by decide +kernel
set_option maxRecDepth 20000 in
theorem ggX3_sightsLostTo_X0_isTaken : GoodIn wsX3_sightsLostTo wsX0_isTaken := goodIn_r _ [8, 9, 53, 54, 55, 56, 57, 58, 59, 60, 61, 62] (by decide +kernel) (by decide +kernel)
set_option maxRecDepth 20000 in
theorem gX3_sightsLostTo_X0_isTaken : GoodIn wsX3_sightsLostTo (wsV RX3 71 RX0 yX0_isTaken wsX0_isTaken) := goodIn_app (goodIn_of _ (by decide +kernel)) ggX3_sightsLostTo_X0_isTaken
set_option maxRecDepth 20000 in
theorem ggX3_sightsLostTo_X3_sees : GoodIn wsX3_sightsLostTo wsX3_sees := goodIn_r _ [14, 15, 16, 17, 13, 18, 19, 20, 21, 22, 23, 48, 49, 50, 51, 52] (by decide +kernel) (by decide +kernel)
set_option maxRecDepth 20000 in
theorem gX3_sightsLostTo_X3_sees : GoodIn wsX3_sightsLostTo (wsV RX3 64 RX3 yX3_sees wsX3_sees) := goodIn_app (goodIn_of _ (by decide +kernel)) ggX3_sightsLostTo_X3_sees
set_option maxRecDepth 20000 in
theorem ggX3_sightsLostTo_X0_isHeadInWay : GoodIn wsX3_sightsLostTo wsX0_isHeadInWay := goodIn_r _ [27, 28, 29, 30, 31, 32, 33, 34, 35, 7, 36, 37, 38, 39, 40, 41, 42, 43, 44, 45, 46, 47, 53, 54, 55, 56, 57, 58, 59, 60, 61, 62] (by decide +kernel) (by decide +kernel)
set_option maxRecDepth 20000 in
theorem gX3_sightsLostTo_X0_isHeadInWay : GoodIn wsX3_sightsLostTo (wsV RX3 86 RX0 yX0_isHeadInWay wsX0_isHeadInWay) := goodIn_app (goodIn_of _ (by decide +kernel)) ggX3_sightsLostTo_X0_isHeadInWay
theorem dX3_sightsLostTo_0 : decode cX3_sightsLostTo 0 = .ok (.aload_n 0, 1) := by decide +kernel
theorem dX3_sightsLostTo_1 : decode cX3_sightsLostTo 1 = .ok (.getfield 12, 3) := by decide +kernel
theorem dX3_sightsLostTo_4 : decode cX3_sightsLostTo 4 = .ok (.iload_n 1, 1) := by decide +kernel
theorem dX3_sightsLostTo_5 : decode cX3_sightsLostTo 5 = .ok (.iload_n 2, 1) := by decide +kernel
theorem dX3_sightsLostTo_6 : decode cX3_sightsLostTo 6 = .ok (.invokevirtual 71, 3) := by decide +kernel
theorem dX3_sightsLostTo_9 : decode cX3_sightsLostTo 9 = .ok (.ifCond .eq 5, 3) := by decide +kernel
theorem dX3_sightsLostTo_12 : decode cX3_sightsLostTo 12 = .ok (.iconst 0, 1) := by decide +kernel
theorem dX3_sightsLostTo_13 : decode cX3_sightsLostTo 13 = .ok (.ireturn, 1) := by decide +kernel
theorem dX3_sightsLostTo_14 : decode cX3_sightsLostTo 14 = .ok (.iconst 0, 1) := by decide +kernel
theorem dX3_sightsLostTo_15 : decode cX3_sightsLostTo 15 = .ok (.istore_n 3, 1) := by decide +kernel
theorem dX3_sightsLostTo_16 : decode cX3_sightsLostTo 16 = .ok (.iload_n 1, 1) := by decide +kernel
theorem dX3_sightsLostTo_17 : decode cX3_sightsLostTo 17 = .ok (.iconst 1, 1) := by decide +kernel
theorem dX3_sightsLostTo_18 : decode cX3_sightsLostTo 18 = .ok (.iadd, 1) := by decide +kernel
theorem dX3_sightsLostTo_19 : decode cX3_sightsLostTo 19 = .ok (.istore 4, 2) := by decide +kernel
theorem dX3_sightsLostTo_21 : decode cX3_sightsLostTo 21 = .ok (.iload 4, 2) := by decide +kernel
theorem dX3_sightsLostTo_23 : decode cX3_sightsLostTo 23 = .ok (.aload_n 0, 1) := by decide +kernel
theorem dX3_sightsLostTo_24 : decode cX3_sightsLostTo 24 = .ok (.getfield 12, 3) := by decide +kernel
theorem dX3_sightsLostTo_27 : decode cX3_sightsLostTo 27 = .ok (.getfield 32, 3) := by decide +kernel
theorem dX3_sightsLostTo_30 : decode cX3_sightsLostTo 30 = .ok (.if_icmp .ge 77, 3) := by decide +kernel
theorem dX3_sightsLostTo_33 : decode cX3_sightsLostTo 33 = .ok (.iconst 0, 1) := by decide +kernel
theorem dX3_sightsLostTo_34 : decode cX3_sightsLostTo 34 = .ok (.istore 5, 2) := by decide +kernel
theorem dX3_sightsLostTo_36 : decode cX3_sightsLostTo 36 = .ok (.iload 5, 2) := by decide +kernel
theorem dX3_sightsLostTo_38 : decode cX3_sightsLostTo 38 = .ok (.aload_n 0, 1) := by decide +kernel
theorem dX3_sightsLostTo_39 : decode cX3_sightsLostTo 39 = .ok (.getfield 12, 3) := by decide +kernel
theorem dX3_sightsLostTo_42 : decode cX3_sightsLostTo 42 = .ok (.getfield 36, 3) := by decide +kernel
theorem dX3_sightsLostTo_45 : decode cX3_sightsLostTo 45 = .ok (.iload 4, 2) := by decide +kernel
theorem dX3_sightsLostTo_47 : decode cX3_sightsLostTo 47 = .ok (.iaload, 1) := by decide +kernel
theorem dX3_sightsLostTo_48 : decode cX3_sightsLostTo 48 = .ok (.if_icmp .ge 53, 3) := by decide +kernel
theorem dX3_sightsLostTo_51 : decode cX3_sightsLostTo 51 = .ok (.aload_n 0, 1) := by decide +kernel
theorem dX3_sightsLostTo_52 : decode cX3_sightsLostTo 52 = .ok (.getfield 12, 3) := by decide +kernel
theorem dX3_sightsLostTo_55 : decode cX3_sightsLostTo 55 = .ok (.iload 4, 2) := by decide +kernel
theorem dX3_sightsLostTo_57 : decode cX3_sightsLostTo 57 = .ok (.iload 5, 2) := by decide +kernel
theorem dX3_sightsLostTo_59 : decode cX3_sightsLostTo 59 = .ok (.invokevirtual 71, 3) := by decide +kernel
theorem dX3_sightsLostTo_62 : decode cX3_sightsLostTo 62 = .ok (.ifCond .eq 33, 3) := by decide +kernel
theorem dX3_sightsLostTo_65 : decode cX3_sightsLostTo 65 = .ok (.aload_n 0, 1) := by decide +kernel
theorem dX3_sightsLostTo_66 : decode cX3_sightsLostTo 66 = .ok (.iload 4, 2) := by decide +kernel
theorem dX3_sightsLostTo_68 : decode cX3_sightsLostTo 68 = .ok (.iload 5, 2) := by decide +kernel
theorem dX3_sightsLostTo_70 : decode cX3_sightsLostTo 70 = .ok (.invokevirtual 64, 3) := by decide +kernel
theorem dX3_sightsLostTo_73 : decode cX3_sightsLostTo 73 = .ok (.ifCond .eq 22, 3) := by decide +kernel
theorem dX3_sightsLostTo_76 : decode cX3_sightsLostTo 76 = .ok (.aload_n 0, 1) := by decide +kernel
theorem dX3_sightsLostTo_77 : decode cX3_sightsLostTo 77 = .ok (.getfield 12, 3) := by decide +kernel
theorem dX3_sightsLostTo_80 : decode cX3_sightsLostTo 80 = .ok (.iload 4, 2) := by decide +kernel
theorem dX3_sightsLostTo_82 : decode cX3_sightsLostTo 82 = .ok (.iload 5, 2) := by decide +kernel
theorem dX3_sightsLostTo_84 : decode cX3_sightsLostTo 84 = .ok (.iload_n 1, 1) := by decide +kernel
theorem dX3_sightsLostTo_85 : decode cX3_sightsLostTo 85 = .ok (.iload_n 2, 1) := by decide +kernel
theorem dX3_sightsLostTo_86 : decode cX3_sightsLostTo 86 = .ok (.invokevirtual 86, 3) := by decide +kernel
theorem dX3_sightsLostTo_89 : decode cX3_sightsLostTo 89 = .ok (.ifCond .eq 6, 3) := by decide +kernel
theorem dX3_sightsLostTo_92 : decode cX3_sightsLostTo 92 = .ok (.iinc 3 1, 3) := by decide +kernel
theorem dX3_sightsLostTo_95 : decode cX3_sightsLostTo 95 = .ok (.iinc 5 1, 3) := by decide +kernel
theorem dX3_sightsLostTo_98 : decode cX3_sightsLostTo 98 = .ok (.goto (-62), 3) := by decide +kernel
theorem dX3_sightsLostTo_101 : decode cX3_sightsLostTo 101 = .ok (.iinc 4 1, 3) := by decide +kernel
theorem dX3_sightsLostTo_104 : decode cX3_sightsLostTo 104 = .ok (.goto (-83), 3) := by decide +kernel
theorem dX3_sightsLostTo_107 : decode cX3_sightsLostTo 107 = .ok (.iload_n 3, 1) := by decide +kernel
theorem dX3_sightsLostTo_108 : decode cX3_sightsLostTo 108 = .ok (.ireturn, 1) := by decide +kernel
set_option maxRecDepth 20000 in
theorem ggX3_columnToRemove_X3_seatsKeptBy : GoodIn wsX3_columnToRemove wsX3_seatsKeptBy := goodIn_r _ [7, 1, 8, 9, 10, 11, 12, 6, 13, 14, 15, 16, 17, 18, 19, 20, 21, 22, 23, 24, 25, 26, 27, 28, 29, 30, 31, 32, 33, 34, 35, 36, 37, 38, 39, 40, 41, 42, 43, 44, 45, 46, 47, 48, 49, 50, 51] (by decide +kernel) (by decide +kernel)
set_option maxRecDepth 20000 in
theorem gX3_columnToRemove_X3_seatsKeptBy : GoodIn wsX3_columnToRemove (wsV RX3 92 RX3 yX3_seatsKeptBy wsX3_seatsKeptBy) := goodIn_app (goodIn_of _ (by decide +kernel)) ggX3_columnToRemove_X3_seatsKeptBy
theorem dX3_columnToRemove_0 : decode cX3_columnToRemove 0 = .ok (.iconst (-1), 1) := by decide +kernel
theorem dX3_columnToRemove_1 : decode cX3_columnToRemove 1 = .ok (.istore_n 1, 1) := by decide +kernel
theorem dX3_columnToRemove_2 : decode cX3_columnToRemove 2 = .ok (.iconst 0, 1) := by decide +kernel
theorem dX3_columnToRemove_3 : decode cX3_columnToRemove 3 = .ok (.istore_n 2, 1) := by decide +kernel
theorem dX3_columnToRemove_4 : decode cX3_columnToRemove 4 = .ok (.iconst 0, 1) := by decide +kernel
theorem dX3_columnToRemove_5 : decode cX3_columnToRemove 5 = .ok (.istore_n 3, 1) := by decide +kernel
theorem dX3_columnToRemove_6 : decode cX3_columnToRemove 6 = .ok (.iload_n 3, 1) := by decide +kernel
theorem dX3_columnToRemove_7 : decode cX3_columnToRemove 7 = .ok (.aload_n 0, 1) := by decide +kernel
theorem dX3_columnToRemove_8 : decode cX3_columnToRemove 8 = .ok (.getfield 12, 3) := by decide +kernel
theorem dX3_columnToRemove_11 : decode cX3_columnToRemove 11 = .ok (.getfield 90, 3) := by decide +kernel
theorem dX3_columnToRemove_14 : decode cX3_columnToRemove 14 = .ok (.if_icmp .ge 32, 3) := by decide +kernel
theorem dX3_columnToRemove_17 : decode cX3_columnToRemove 17 = .ok (.aload_n 0, 1) := by decide +kernel
theorem dX3_columnToRemove_18 : decode cX3_columnToRemove 18 = .ok (.iload_n 3, 1) := by decide +kernel
theorem dX3_columnToRemove_19 : decode cX3_columnToRemove 19 = .ok (.invokevirtual 92, 3) := by decide +kernel
theorem dX3_columnToRemove_22 : decode cX3_columnToRemove 22 = .ok (.istore 4, 2) := by decide +kernel
theorem dX3_columnToRemove_24 : decode cX3_columnToRemove 24 = .ok (.iload_n 1, 1) := by decide +kernel
theorem dX3_columnToRemove_25 : decode cX3_columnToRemove 25 = .ok (.iconst (-1), 1) := by decide +kernel
theorem dX3_columnToRemove_26 : decode cX3_columnToRemove 26 = .ok (.if_icmp .eq 9, 3) := by decide +kernel
theorem dX3_columnToRemove_29 : decode cX3_columnToRemove 29 = .ok (.iload 4, 2) := by decide +kernel
theorem dX3_columnToRemove_31 : decode cX3_columnToRemove 31 = .ok (.iload_n 2, 1) := by decide +kernel
theorem dX3_columnToRemove_32 : decode cX3_columnToRemove 32 = .ok (.if_icmp .le 8, 3) := by decide +kernel
theorem dX3_columnToRemove_35 : decode cX3_columnToRemove 35 = .ok (.iload_n 3, 1) := by decide +kernel
theorem dX3_columnToRemove_36 : decode cX3_columnToRemove 36 = .ok (.istore_n 1, 1) := by decide +kernel
theorem dX3_columnToRemove_37 : decode cX3_columnToRemove 37 = .ok (.iload 4, 2) := by decide +kernel
theorem dX3_columnToRemove_39 : decode cX3_columnToRemove 39 = .ok (.istore_n 2, 1) := by decide +kernel
theorem dX3_columnToRemove_40 : decode cX3_columnToRemove 40 = .ok (.iinc 3 1, 3) := by decide +kernel
theorem dX3_columnToRemove_43 : decode cX3_columnToRemove 43 = .ok (.goto (-37), 3) := by decide +kernel
theorem dX3_columnToRemove_46 : decode cX3_columnToRemove 46 = .ok (.iload_n 1, 1) := by decide +kernel
theorem dX3_columnToRemove_47 : decode cX3_columnToRemove 47 = .ok (.ireturn, 1) := by decide +kernel
set_option maxRecDepth 20000 in
theorem ggX3_seatsKeptBy_X3_allInWay : GoodIn wsX3_seatsKeptBy wsX3_allInWay := goodIn_r _ [8, 9, 10, 11, 12, 7, 13, 32, 33, 34, 35, 36] (by decide +kernel) (by decide +kernel)
set_option maxRecDepth 20000 in
theorem gX3_seatsKeptBy_X3_allInWay : GoodIn wsX3_seatsKeptBy (wsV RX3 52 RX3 yX3_allInWay wsX3_allInWay) := goodIn_app (goodIn_of _ (by decide +kernel)) ggX3_seatsKeptBy_X3_allInWay
set_option maxRecDepth 20000 in
theorem ggX3_seatsKeptBy_X0_isColumnInWay : GoodIn wsX3_seatsKeptBy wsX0_isColumnInWay := goodIn_r _ [18, 19, 20, 21, 22, 23, 24, 25, 26, 27, 28, 29, 17, 30, 31, 37, 38, 39, 40, 41, 42, 43, 44, 45, 46] (by decide +kernel) (by decide +kernel)
set_option maxRecDepth 20000 in
theorem gX3_seatsKeptBy_X0_isColumnInWay : GoodIn wsX3_seatsKeptBy (wsV RX3 95 RX0 yX0_isColumnInWay wsX0_isColumnInWay) := goodIn_app (goodIn_of _ (by decide +kernel)) ggX3_seatsKeptBy_X0_isColumnInWay
theorem dX3_seatsKeptBy_0 : decode cX3_seatsKeptBy 0 = .ok (.iconst 0, 1) := by decide +kernel
theorem dX3_seatsKeptBy_1 : decode cX3_seatsKeptBy 1 = .ok (.istore_n 2, 1) := by decide +kernel
theorem dX3_seatsKeptBy_2 : decode cX3_seatsKeptBy 2 = .ok (.iconst 0, 1) := by decide +kernel
theorem dX3_seatsKeptBy_3 : decode cX3_seatsKeptBy 3 = .ok (.istore_n 3, 1) := by decide +kernel
theorem dX3_seatsKeptBy_4 : decode cX3_seatsKeptBy 4 = .ok (.iload_n 3, 1) := by decide +kernel
theorem dX3_seatsKeptBy_5 : decode cX3_seatsKeptBy 5 = .ok (.aload_n 0, 1) := by decide +kernel
theorem dX3_seatsKeptBy_6 : decode cX3_seatsKeptBy 6 = .ok (.getfield 12, 3) := by decide +kernel
theorem dX3_seatsKeptBy_9 : decode cX3_seatsKeptBy 9 = .ok (.getfield 32, 3) := by decide +kernel
theorem dX3_seatsKeptBy_12 : decode cX3_seatsKeptBy 12 = .ok (.if_icmp .ge 60, 3) := by decide +kernel
theorem dX3_seatsKeptBy_15 : decode cX3_seatsKeptBy 15 = .ok (.iconst 0, 1) := by decide +kernel
theorem dX3_seatsKeptBy_16 : decode cX3_seatsKeptBy 16 = .ok (.istore 4, 2) := by decide +kernel
theorem dX3_seatsKeptBy_18 : decode cX3_seatsKeptBy 18 = .ok (.iload 4, 2) := by decide +kernel
theorem dX3_seatsKeptBy_20 : decode cX3_seatsKeptBy 20 = .ok (.aload_n 0, 1) := by decide +kernel
theorem dX3_seatsKeptBy_21 : decode cX3_seatsKeptBy 21 = .ok (.getfield 12, 3) := by decide +kernel
theorem dX3_seatsKeptBy_24 : decode cX3_seatsKeptBy 24 = .ok (.getfield 36, 3) := by decide +kernel
theorem dX3_seatsKeptBy_27 : decode cX3_seatsKeptBy 27 = .ok (.iload_n 3, 1) := by decide +kernel
theorem dX3_seatsKeptBy_28 : decode cX3_seatsKeptBy 28 = .ok (.iaload, 1) := by decide +kernel
theorem dX3_seatsKeptBy_29 : decode cX3_seatsKeptBy 29 = .ok (.if_icmp .ge 37, 3) := by decide +kernel
theorem dX3_seatsKeptBy_32 : decode cX3_seatsKeptBy 32 = .ok (.aload_n 0, 1) := by decide +kernel
theorem dX3_seatsKeptBy_33 : decode cX3_seatsKeptBy 33 = .ok (.iload_n 3, 1) := by decide +kernel
theorem dX3_seatsKeptBy_34 : decode cX3_seatsKeptBy 34 = .ok (.iload 4, 2) := by decide +kernel
theorem dX3_seatsKeptBy_36 : decode cX3_seatsKeptBy 36 = .ok (.invokevirtual 52, 3) := by decide +kernel
theorem dX3_seatsKeptBy_39 : decode cX3_seatsKeptBy 39 = .ok (.iconst 1, 1) := by decide +kernel
theorem dX3_seatsKeptBy_40 : decode cX3_seatsKeptBy 40 = .ok (.if_icmp .ne 20, 3) := by decide +kernel
theorem dX3_seatsKeptBy_43 : decode cX3_seatsKeptBy 43 = .ok (.aload_n 0, 1) := by decide +kernel
theorem dX3_seatsKeptBy_44 : decode cX3_seatsKeptBy 44 = .ok (.getfield 12, 3) := by decide +kernel
theorem dX3_seatsKeptBy_47 : decode cX3_seatsKeptBy 47 = .ok (.iload_n 3, 1) := by decide +kernel
theorem dX3_seatsKeptBy_48 : decode cX3_seatsKeptBy 48 = .ok (.iload 4, 2) := by decide +kernel
theorem dX3_seatsKeptBy_50 : decode cX3_seatsKeptBy 50 = .ok (.iload_n 1, 1) := by decide +kernel
theorem dX3_seatsKeptBy_51 : decode cX3_seatsKeptBy 51 = .ok (.invokevirtual 95, 3) := by decide +kernel
theorem dX3_seatsKeptBy_54 : decode cX3_seatsKeptBy 54 = .ok (.ifCond .eq 6, 3) := by decide +kernel
theorem dX3_seatsKeptBy_57 : decode cX3_seatsKeptBy 57 = .ok (.iinc 2 1, 3) := by decide +kernel
theorem dX3_seatsKeptBy_60 : decode cX3_seatsKeptBy 60 = .ok (.iinc 4 1, 3) := by decide +kernel
theorem dX3_seatsKeptBy_63 : decode cX3_seatsKeptBy 63 = .ok (.goto (-45), 3) := by decide +kernel
theorem dX3_seatsKeptBy_66 : decode cX3_seatsKeptBy 66 = .ok (.iinc 3 1, 3) := by decide +kernel
theorem dX3_seatsKeptBy_69 : decode cX3_seatsKeptBy 69 = .ok (.goto (-65), 3) := by decide +kernel
theorem dX3_seatsKeptBy_72 : decode cX3_seatsKeptBy 72 = .ok (.iload_n 2, 1) := by decide +kernel
theorem dX3_seatsKeptBy_73 : decode cX3_seatsKeptBy 73 = .ok (.ireturn, 1) := by decide +kernel
