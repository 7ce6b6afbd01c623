theorem dL_cell_0 : decode cL_cell 0 = .ok (.iload_n 1, 1) := by decide +kernel
theorem dL_cell_1 : decode cL_cell 1 = .ok (.aload_n 0, 1) := by decide +kernel
theorem dL_cell_2 : decode cL_cell 2 = .ok (.arraylength, 1) := by decide +kernel
theorem dL_cell_3 : decode cL_cell 3 = .ok (.if_icmp .ge 9, 3) := by decide +kernel
theorem dL_cell_6 : decode cL_cell 6 = .ok (.aload_n 0, 1) := by decide +kernel
theorem dL_cell_7 : decode cL_cell 7 = .ok (.iload_n 1, 1) := by decide +kernel
theorem dL_cell_8 : decode cL_cell 8 = .ok (.iaload, 1) := by decide +kernel
theorem dL_cell_9 : decode cL_cell 9 = .ok (.goto 11, 3) := by decide +kernel
theorem dL_cell_12 : decode cL_cell 12 = .ok (.ldc 7, 2) := by decide +kernel
theorem dL_cell_14 : decode cL_cell 14 = .ok (.iload_n 1, 1) := by decide +kernel
theorem dL_cell_15 : decode cL_cell 15 = .ok (.sipush 521, 3) := by decide +kernel
theorem dL_cell_18 : decode cL_cell 18 = .ok (.iadd, 1) := by decide +kernel
theorem dL_cell_19 : decode cL_cell 19 = .ok (.imul, 1) := by decide +kernel
theorem dL_cell_20 : decode cL_cell 20 = .ok (.ireturn, 1) := by decide +kernel
theorem dL_at_0 : decode cL_at 0 = .ok (.iload_n 0, 1) := by decide +kernel
theorem dL_at_1 : decode cL_at 1 = .ok (.iconst 1, 1) := by decide +kernel
theorem dL_at_2 : decode cL_at 2 = .ok (.iushr, 1) := by decide +kernel
theorem dL_at_3 : decode cL_at 3 = .ok (.iload_n 1, 1) := by decide +kernel
theorem dL_at_4 : decode cL_at 4 = .ok (.irem, 1) := by decide +kernel
theorem dL_at_5 : decode cL_at 5 = .ok (.ireturn, 1) := by decide +kernel
theorem dL_side_0 : decode cL_side 0 = .ok (.iconst 2, 1) := by decide +kernel
theorem dL_side_1 : decode cL_side 1 = .ok (.iload_n 2, 1) := by decide +kernel
theorem dL_side_2 : decode cL_side 2 = .ok (.imul, 1) := by decide +kernel
theorem dL_side_3 : decode cL_side 3 = .ok (.iconst 1, 1) := by decide +kernel
theorem dL_side_4 : decode cL_side 4 = .ok (.iadd, 1) := by decide +kernel
theorem dL_side_5 : decode cL_side 5 = .ok (.aload_n 0, 1) := by decide +kernel
theorem dL_side_6 : decode cL_side 6 = .ok (.iconst 4, 1) := by decide +kernel
theorem dL_side_7 : decode cL_side 7 = .ok (.iload_n 1, 1) := by decide +kernel
theorem dL_side_8 : decode cL_side 8 = .ok (.imul, 1) := by decide +kernel
theorem dL_side_9 : decode cL_side 9 = .ok (.iconst 2, 1) := by decide +kernel
theorem dL_side_10 : decode cL_side 10 = .ok (.iadd, 1) := by decide +kernel
theorem dL_side_11 : decode cL_side 11 = .ok (.iaload, 1) := by decide +kernel
theorem dL_side_12 : decode cL_side 12 = .ok (.isub, 1) := by decide +kernel
theorem dL_side_13 : decode cL_side 13 = .ok (.ireturn, 1) := by decide +kernel
set_option maxRecDepth 20000 in
theorem ggL_inWay_L_side : GoodIn wsL_inWay wsL_side := goodIn_r _ [4] (by decide +kernel) (by decide +kernel)
set_option maxRecDepth 20000 in
theorem gL_inWay_L_side : GoodIn wsL_inWay (va_wsS RL 8 yL_side wsL_side) := goodIn_app (goodIn_of _ (by decide +kernel)) ggL_inWay_L_side
theorem dL_inWay_0 : decode cL_inWay 0 = .ok (.aload_n 1, 1) := by decide +kernel
theorem dL_inWay_1 : decode cL_inWay 1 = .ok (.iconst 4, 1) := by decide +kernel
theorem dL_inWay_2 : decode cL_inWay 2 = .ok (.iload_n 2, 1) := by decide +kernel
theorem dL_inWay_3 : decode cL_inWay 3 = .ok (.imul, 1) := by decide +kernel
theorem dL_inWay_4 : decode cL_inWay 4 = .ok (.iaload, 1) := by decide +kernel
theorem dL_inWay_5 : decode cL_inWay 5 = .ok (.aload_n 1, 1) := by decide +kernel
theorem dL_inWay_6 : decode cL_inWay 6 = .ok (.iconst 4, 1) := by decide +kernel
theorem dL_inWay_7 : decode cL_inWay 7 = .ok (.iload 4, 2) := by decide +kernel
theorem dL_inWay_9 : decode cL_inWay 9 = .ok (.imul, 1) := by decide +kernel
theorem dL_inWay_10 : decode cL_inWay 10 = .ok (.iaload, 1) := by decide +kernel
theorem dL_inWay_11 : decode cL_inWay 11 = .ok (.if_icmp .lt 5, 3) := by decide +kernel
theorem dL_inWay_14 : decode cL_inWay 14 = .ok (.iconst 0, 1) := by decide +kernel
theorem dL_inWay_15 : decode cL_inWay 15 = .ok (.ireturn, 1) := by decide +kernel
theorem dL_inWay_16 : decode cL_inWay 16 = .ok (.aload_n 1, 1) := by decide +kernel
theorem dL_inWay_17 : decode cL_inWay 17 = .ok (.iconst 4, 1) := by decide +kernel
theorem dL_inWay_18 : decode cL_inWay 18 = .ok (.iload_n 2, 1) := by decide +kernel
theorem dL_inWay_19 : decode cL_inWay 19 = .ok (.imul, 1) := by decide +kernel
theorem dL_inWay_20 : decode cL_inWay 20 = .ok (.iconst 1, 1) := by decide +kernel
theorem dL_inWay_21 : decode cL_inWay 21 = .ok (.iadd, 1) := by decide +kernel
theorem dL_inWay_22 : decode cL_inWay 22 = .ok (.iaload, 1) := by decide +kernel
theorem dL_inWay_23 : decode cL_inWay 23 = .ok (.aload_n 0, 1) := by decide +kernel
theorem dL_inWay_24 : decode cL_inWay 24 = .ok (.iconst 4, 1) := by decide +kernel
theorem dL_inWay_25 : decode cL_inWay 25 = .ok (.iaload, 1) := by decide +kernel
theorem dL_inWay_26 : decode cL_inWay 26 = .ok (.iadd, 1) := by decide +kernel
theorem dL_inWay_27 : decode cL_inWay 27 = .ok (.aload_n 0, 1) := by decide +kernel
theorem dL_inWay_28 : decode cL_inWay 28 = .ok (.iconst 5, 1) := by decide +kernel
theorem dL_inWay_29 : decode cL_inWay 29 = .ok (.iaload, 1) := by decide +kernel
theorem dL_inWay_30 : decode cL_inWay 30 = .ok (.iadd, 1) := by decide +kernel
theorem dL_inWay_31 : decode cL_inWay 31 = .ok (.aload_n 0, 1) := by decide +kernel
theorem dL_inWay_32 : decode cL_inWay 32 = .ok (.iconst 3, 1) := by decide +kernel
theorem dL_inWay_33 : decode cL_inWay 33 = .ok (.iaload, 1) := by decide +kernel
theorem dL_inWay_34 : decode cL_inWay 34 = .ok (.isub, 1) := by decide +kernel
theorem dL_inWay_35 : decode cL_inWay 35 = .ok (.i2l, 1) := by decide +kernel
theorem dL_inWay_36 : decode cL_inWay 36 = .ok (.aload_n 1, 1) := by decide +kernel
theorem dL_inWay_37 : decode cL_inWay 37 = .ok (.iconst 4, 1) := by decide +kernel
theorem dL_inWay_38 : decode cL_inWay 38 = .ok (.iload 4, 2) := by decide +kernel
theorem dL_inWay_40 : decode cL_inWay 40 = .ok (.imul, 1) := by decide +kernel
theorem dL_inWay_41 : decode cL_inWay 41 = .ok (.iaload, 1) := by decide +kernel
theorem dL_inWay_42 : decode cL_inWay 42 = .ok (.i2l, 1) := by decide +kernel
theorem dL_inWay_43 : decode cL_inWay 43 = .ok (.lmul, 1) := by decide +kernel
theorem dL_inWay_44 : decode cL_inWay 44 = .ok (.lstore 6, 2) := by decide +kernel
theorem dL_inWay_46 : decode cL_inWay 46 = .ok (.aload_n 1, 1) := by decide +kernel
theorem dL_inWay_47 : decode cL_inWay 47 = .ok (.iconst 4, 1) := by decide +kernel
theorem dL_inWay_48 : decode cL_inWay 48 = .ok (.iload 4, 2) := by decide +kernel
theorem dL_inWay_50 : decode cL_inWay 50 = .ok (.imul, 1) := by decide +kernel
theorem dL_inWay_51 : decode cL_inWay 51 = .ok (.iconst 1, 1) := by decide +kernel
theorem dL_inWay_52 : decode cL_inWay 52 = .ok (.iadd, 1) := by decide +kernel
theorem dL_inWay_53 : decode cL_inWay 53 = .ok (.iaload, 1) := by decide +kernel
theorem dL_inWay_54 : decode cL_inWay 54 = .ok (.aload_n 0, 1) := by decide +kernel
theorem dL_inWay_55 : decode cL_inWay 55 = .ok (.iconst 4, 1) := by decide +kernel
theorem dL_inWay_56 : decode cL_inWay 56 = .ok (.iaload, 1) := by decide +kernel
theorem dL_inWay_57 : decode cL_inWay 57 = .ok (.iadd, 1) := by decide +kernel
theorem dL_inWay_58 : decode cL_inWay 58 = .ok (.aload_n 0, 1) := by decide +kernel
theorem dL_inWay_59 : decode cL_inWay 59 = .ok (.iconst 3, 1) := by decide +kernel
theorem dL_inWay_60 : decode cL_inWay 60 = .ok (.iaload, 1) := by decide +kernel
theorem dL_inWay_61 : decode cL_inWay 61 = .ok (.isub, 1) := by decide +kernel
theorem dL_inWay_62 : decode cL_inWay 62 = .ok (.i2l, 1) := by decide +kernel
theorem dL_inWay_63 : decode cL_inWay 63 = .ok (.aload_n 1, 1) := by decide +kernel
theorem dL_inWay_64 : decode cL_inWay 64 = .ok (.iconst 4, 1) := by decide +kernel
theorem dL_inWay_65 : decode cL_inWay 65 = .ok (.iload_n 2, 1) := by decide +kernel
theorem dL_inWay_66 : decode cL_inWay 66 = .ok (.imul, 1) := by decide +kernel
theorem dL_inWay_67 : decode cL_inWay 67 = .ok (.iaload, 1) := by decide +kernel
theorem dL_inWay_68 : decode cL_inWay 68 = .ok (.i2l, 1) := by decide +kernel
theorem dL_inWay_69 : decode cL_inWay 69 = .ok (.lmul, 1) := by decide +kernel
theorem dL_inWay_70 : decode cL_inWay 70 = .ok (.lstore 8, 2) := by decide +kernel
theorem dL_inWay_72 : decode cL_inWay 72 = .ok (.aload_n 1, 1) := by decide +kernel
theorem dL_inWay_73 : decode cL_inWay 73 = .ok (.iload_n 2, 1) := by decide +kernel
theorem dL_inWay_74 : decode cL_inWay 74 = .ok (.iload_n 3, 1) := by decide +kernel
theorem dL_inWay_75 : decode cL_inWay 75 = .ok (.invokestatic 8, 3) := by decide +kernel
theorem dL_inWay_78 : decode cL_inWay 78 = .ok (.aload_n 1, 1) := by decide +kernel
theorem dL_inWay_79 : decode cL_inWay 79 = .ok (.iconst 4, 1) := by decide +kernel
theorem dL_inWay_80 : decode cL_inWay 80 = .ok (.iload 4, 2) := by decide +kernel
theorem dL_inWay_82 : decode cL_inWay 82 = .ok (.imul, 1) := by decide +kernel
theorem dL_inWay_83 : decode cL_inWay 83 = .ok (.iaload, 1) := by decide +kernel
theorem dL_inWay_84 : decode cL_inWay 84 = .ok (.imul, 1) := by decide +kernel
theorem dL_inWay_85 : decode cL_inWay 85 = .ok (.aload_n 1, 1) := by decide +kernel
theorem dL_inWay_86 : decode cL_inWay 86 = .ok (.iload 4, 2) := by decide +kernel
theorem dL_inWay_88 : decode cL_inWay 88 = .ok (.iload 5, 2) := by decide +kernel
theorem dL_inWay_90 : decode cL_inWay 90 = .ok (.invokestatic 8, 3) := by decide +kernel
theorem dL_inWay_93 : decode cL_inWay 93 = .ok (.aload_n 1, 1) := by decide +kernel
theorem dL_inWay_94 : decode cL_inWay 94 = .ok (.iconst 4, 1) := by decide +kernel
theorem dL_inWay_95 : decode cL_inWay 95 = .ok (.iload_n 2, 1) := by decide +kernel
theorem dL_inWay_96 : decode cL_inWay 96 = .ok (.imul, 1) := by decide +kernel
theorem dL_inWay_97 : decode cL_inWay 97 = .ok (.iaload, 1) := by decide +kernel
theorem dL_inWay_98 : decode cL_inWay 98 = .ok (.imul, 1) := by decide +kernel
theorem dL_inWay_99 : decode cL_inWay 99 = .ok (.isub, 1) := by decide +kernel
theorem dL_inWay_100 : decode cL_inWay 100 = .ok (.istore 10, 2) := by decide +kernel
theorem dL_inWay_102 : decode cL_inWay 102 = .ok (.lload 6, 2) := by decide +kernel
theorem dL_inWay_104 : decode cL_inWay 104 = .ok (.lload 8, 2) := by decide +kernel
theorem dL_inWay_106 : decode cL_inWay 106 = .ok (.lcmp, 1) := by decide +kernel
theorem dL_inWay_107 : decode cL_inWay 107 = .ok (.ifCond .le 30, 3) := by decide +kernel
theorem dL_inWay_110 : decode cL_inWay 110 = .ok (.iload 10, 2) := by decide +kernel
theorem dL_inWay_112 : decode cL_inWay 112 = .ok (.aload_n 1, 1) := by decide +kernel
theorem dL_inWay_113 : decode cL_inWay 113 = .ok (.iconst 4, 1) := by decide +kernel
theorem dL_inWay_114 : decode cL_inWay 114 = .ok (.iload 4, 2) := by decide +kernel
theorem dL_inWay_116 : decode cL_inWay 116 = .ok (.imul, 1) := by decide +kernel
theorem dL_inWay_117 : decode cL_inWay 117 = .ok (.iaload, 1) := by decide +kernel
theorem dL_inWay_118 : decode cL_inWay 118 = .ok (.if_icmp .ge 19, 3) := by decide +kernel
theorem dL_inWay_121 : decode cL_inWay 121 = .ok (.iload 10, 2) := by decide +kernel
theorem dL_inWay_123 : decode cL_inWay 123 = .ok (.ineg, 1) := by decide +kernel
theorem dL_inWay_124 : decode cL_inWay 124 = .ok (.aload_n 1, 1) := by decide +kernel
theorem dL_inWay_125 : decode cL_inWay 125 = .ok (.iconst 4, 1) := by decide +kernel
theorem dL_inWay_126 : decode cL_inWay 126 = .ok (.iload 4, 2) := by decide +kernel
theorem dL_inWay_128 : decode cL_inWay 128 = .ok (.imul, 1) := by decide +kernel
theorem dL_inWay_129 : decode cL_inWay 129 = .ok (.iaload, 1) := by decide +kernel
theorem dL_inWay_130 : decode cL_inWay 130 = .ok (.if_icmp .ge 7, 3) := by decide +kernel
theorem dL_inWay_133 : decode cL_inWay 133 = .ok (.iconst 1, 1) := by decide +kernel
theorem dL_inWay_134 : decode cL_inWay 134 = .ok (.goto 4, 3) := by decide +kernel
theorem dL_inWay_137 : decode cL_inWay 137 = .ok (.iconst 0, 1) := by decide +kernel
theorem dL_inWay_138 : decode cL_inWay 138 = .ok (.ireturn, 1) := by decide +kernel
set_option maxRecDepth 20000 in
theorem ggL_people_L_inWay : GoodIn wsL_people wsL_inWay := goodIn_r _ [4, 5, 6, 3, 7] (by decide +kernel) (by decide +kernel)
set_option maxRecDepth 20000 in
theorem gL_people_L_inWay : GoodIn wsL_people (va_wsS RL 14 yL_inWay wsL_inWay) := goodIn_app (goodIn_of _ (by decide +kernel)) ggL_people_L_inWay
theorem dL_people_0 : decode cL_people 0 = .ok (.iconst 0, 1) := by decide +kernel
theorem dL_people_1 : decode cL_people 1 = .ok (.istore 4, 2) := by decide +kernel
theorem dL_people_3 : decode cL_people 3 = .ok (.iconst 0, 1) := by decide +kernel
theorem dL_people_4 : decode cL_people 4 = .ok (.istore 5, 2) := by decide +kernel
theorem dL_people_6 : decode cL_people 6 = .ok (.iload 5, 2) := by decide +kernel
theorem dL_people_8 : decode cL_people 8 = .ok (.aload_n 0, 1) := by decide +kernel
theorem dL_people_9 : decode cL_people 9 = .ok (.iconst 0, 1) := by decide +kernel
theorem dL_people_10 : decode cL_people 10 = .ok (.iaload, 1) := by decide +kernel
theorem dL_people_11 : decode cL_people 11 = .ok (.if_icmp .ge 65, 3) := by decide +kernel
theorem dL_people_14 : decode cL_people 14 = .ok (.iconst 0, 1) := by decide +kernel
theorem dL_people_15 : decode cL_people 15 = .ok (.istore 6, 2) := by decide +kernel
theorem dL_people_17 : decode cL_people 17 = .ok (.iload 6, 2) := by decide +kernel
theorem dL_people_19 : decode cL_people 19 = .ok (.aload_n 1, 1) := by decide +kernel
theorem dL_people_20 : decode cL_people 20 = .ok (.iconst 4, 1) := by decide +kernel
theorem dL_people_21 : decode cL_people 21 = .ok (.iload 5, 2) := by decide +kernel
theorem dL_people_23 : decode cL_people 23 = .ok (.imul, 1) := by decide +kernel
theorem dL_people_24 : decode cL_people 24 = .ok (.iconst 2, 1) := by decide +kernel
theorem dL_people_25 : decode cL_people 25 = .ok (.iadd, 1) := by decide +kernel
theorem dL_people_26 : decode cL_people 26 = .ok (.iaload, 1) := by decide +kernel
theorem dL_people_27 : decode cL_people 27 = .ok (.if_icmp .ge 43, 3) := by decide +kernel
theorem dL_people_30 : decode cL_people 30 = .ok (.aload_n 1, 1) := by decide +kernel
theorem dL_people_31 : decode cL_people 31 = .ok (.iconst 4, 1) := by decide +kernel
theorem dL_people_32 : decode cL_people 32 = .ok (.iload 5, 2) := by decide +kernel
theorem dL_people_34 : decode cL_people 34 = .ok (.imul, 1) := by decide +kernel
theorem dL_people_35 : decode cL_people 35 = .ok (.iconst 3, 1) := by decide +kernel
theorem dL_people_36 : decode cL_people 36 = .ok (.iadd, 1) := by decide +kernel
theorem dL_people_37 : decode cL_people 37 = .ok (.iaload, 1) := by decide +kernel
theorem dL_people_38 : decode cL_people 38 = .ok (.iload 6, 2) := by decide +kernel
theorem dL_people_40 : decode cL_people 40 = .ok (.ishr, 1) := by decide +kernel
theorem dL_people_41 : decode cL_people 41 = .ok (.iconst 1, 1) := by decide +kernel
theorem dL_people_42 : decode cL_people 42 = .ok (.iand, 1) := by decide +kernel
theorem dL_people_43 : decode cL_people 43 = .ok (.iconst 1, 1) := by decide +kernel
theorem dL_people_44 : decode cL_people 44 = .ok (.if_icmp .ne 20, 3) := by decide +kernel
theorem dL_people_47 : decode cL_people 47 = .ok (.aload_n 0, 1) := by decide +kernel
theorem dL_people_48 : decode cL_people 48 = .ok (.aload_n 1, 1) := by decide +kernel
theorem dL_people_49 : decode cL_people 49 = .ok (.iload 5, 2) := by decide +kernel
theorem dL_people_51 : decode cL_people 51 = .ok (.iload 6, 2) := by decide +kernel
theorem dL_people_53 : decode cL_people 53 = .ok (.iload_n 2, 1) := by decide +kernel
theorem dL_people_54 : decode cL_people 54 = .ok (.iload_n 3, 1) := by decide +kernel
theorem dL_people_55 : decode cL_people 55 = .ok (.invokestatic 14, 3) := by decide +kernel
theorem dL_people_58 : decode cL_people 58 = .ok (.ifCond .eq 6, 3) := by decide +kernel
theorem dL_people_61 : decode cL_people 61 = .ok (.iinc 4 1, 3) := by decide +kernel
theorem dL_people_64 : decode cL_people 64 = .ok (.iinc 6 1, 3) := by decide +kernel
theorem dL_people_67 : decode cL_people 67 = .ok (.goto (-50), 3) := by decide +kernel
theorem dL_people_70 : decode cL_people 70 = .ok (.iinc 5 1, 3) := by decide +kernel
theorem dL_people_73 : decode cL_people 73 = .ok (.goto (-67), 3) := by decide +kernel
theorem dL_people_76 : decode cL_people 76 = .ok (.iload 4, 2) := by decide +kernel
theorem dL_people_78 : decode cL_people 78 = .ok (.ireturn, 1) := by decide +kernel
set_option maxRecDepth 20000 in
theorem ggL_columns_L_side : GoodIn wsL_columns wsL_side := goodIn_r _ [4] (by decide +kernel) (by decide +kernel)
set_option maxRecDepth 20000 in
theorem gL_columns_L_side : GoodIn wsL_columns (va_wsS RL 8 yL_side wsL_side) := goodIn_app (goodIn_of _ (by decide +kernel)) ggL_columns_L_side
theorem dL_columns_0 : decode cL_columns 0 = .ok (.iconst 0, 1) := by decide +kernel
theorem dL_columns_1 : decode cL_columns 1 = .ok (.istore 5, 2) := by decide +kernel
theorem dL_columns_3 : decode cL_columns 3 = .ok (.iconst 0, 1) := by decide +kernel
theorem dL_columns_4 : decode cL_columns 4 = .ok (.istore 6, 2) := by decide +kernel
theorem dL_columns_6 : decode cL_columns 6 = .ok (.iload 6, 2) := by decide +kernel
theorem dL_columns_8 : decode cL_columns 8 = .ok (.aload_n 0, 1) := by decide +kernel
theorem dL_columns_9 : decode cL_columns 9 = .ok (.iconst 1, 1) := by decide +kernel
theorem dL_columns_10 : decode cL_columns 10 = .ok (.iaload, 1) := by decide +kernel
theorem dL_columns_11 : decode cL_columns 11 = .ok (.if_icmp .ge 88, 3) := by decide +kernel
theorem dL_columns_14 : decode cL_columns 14 = .ok (.aload_n 2, 1) := by decide +kernel
theorem dL_columns_15 : decode cL_columns 15 = .ok (.iconst 3, 1) := by decide +kernel
theorem dL_columns_16 : decode cL_columns 16 = .ok (.iload 6, 2) := by decide +kernel
theorem dL_columns_18 : decode cL_columns 18 = .ok (.imul, 1) := by decide +kernel
theorem dL_columns_19 : decode cL_columns 19 = .ok (.iconst 1, 1) := by decide +kernel
theorem dL_columns_20 : decode cL_columns 20 = .ok (.iadd, 1) := by decide +kernel
theorem dL_columns_21 : decode cL_columns 21 = .ok (.iaload, 1) := by decide +kernel
theorem dL_columns_22 : decode cL_columns 22 = .ok (.aload_n 1, 1) := by decide +kernel
theorem dL_columns_23 : decode cL_columns 23 = .ok (.iconst 4, 1) := by decide +kernel
theorem dL_columns_24 : decode cL_columns 24 = .ok (.iload_n 3, 1) := by decide +kernel
theorem dL_columns_25 : decode cL_columns 25 = .ok (.imul, 1) := by decide +kernel
theorem dL_columns_26 : decode cL_columns 26 = .ok (.iaload, 1) := by decide +kernel
theorem dL_columns_27 : decode cL_columns 27 = .ok (.imul, 1) := by decide +kernel
theorem dL_columns_28 : decode cL_columns 28 = .ok (.aload_n 1, 1) := by decide +kernel
theorem dL_columns_29 : decode cL_columns 29 = .ok (.iload_n 3, 1) := by decide +kernel
theorem dL_columns_30 : decode cL_columns 30 = .ok (.iload 4, 2) := by decide +kernel
theorem dL_columns_32 : decode cL_columns 32 = .ok (.invokestatic 8, 3) := by decide +kernel
theorem dL_columns_35 : decode cL_columns 35 = .ok (.aload_n 2, 1) := by decide +kernel
theorem dL_columns_36 : decode cL_columns 36 = .ok (.iconst 3, 1) := by decide +kernel
theorem dL_columns_37 : decode cL_columns 37 = .ok (.iload 6, 2) := by decide +kernel
theorem dL_columns_39 : decode cL_columns 39 = .ok (.imul, 1) := by decide +kernel
theorem dL_columns_40 : decode cL_columns 40 = .ok (.iaload, 1) := by decide +kernel
theorem dL_columns_41 : decode cL_columns 41 = .ok (.imul, 1) := by decide +kernel
theorem dL_columns_42 : decode cL_columns 42 = .ok (.isub, 1) := by decide +kernel
theorem dL_columns_43 : decode cL_columns 43 = .ok (.istore 7, 2) := by decide +kernel
theorem dL_columns_45 : decode cL_columns 45 = .ok (.aload_n 2, 1) := by decide +kernel
theorem dL_columns_46 : decode cL_columns 46 = .ok (.iconst 3, 1) := by decide +kernel
theorem dL_columns_47 : decode cL_columns 47 = .ok (.iload 6, 2) := by decide +kernel
theorem dL_columns_49 : decode cL_columns 49 = .ok (.imul, 1) := by decide +kernel
theorem dL_columns_50 : decode cL_columns 50 = .ok (.iconst 2, 1) := by decide +kernel
theorem dL_columns_51 : decode cL_columns 51 = .ok (.iadd, 1) := by decide +kernel
theorem dL_columns_52 : decode cL_columns 52 = .ok (.iaload, 1) := by decide +kernel
theorem dL_columns_53 : decode cL_columns 53 = .ok (.aload_n 1, 1) := by decide +kernel
theorem dL_columns_54 : decode cL_columns 54 = .ok (.iconst 4, 1) := by decide +kernel
theorem dL_columns_55 : decode cL_columns 55 = .ok (.iload_n 3, 1) := by decide +kernel
theorem dL_columns_56 : decode cL_columns 56 = .ok (.imul, 1) := by decide +kernel
theorem dL_columns_57 : decode cL_columns 57 = .ok (.iaload, 1) := by decide +kernel
theorem dL_columns_58 : decode cL_columns 58 = .ok (.imul, 1) := by decide +kernel
theorem dL_columns_59 : decode cL_columns 59 = .ok (.istore 8, 2) := by decide +kernel
theorem dL_columns_61 : decode cL_columns 61 = .ok (.aload_n 2, 1) := by decide +kernel
theorem dL_columns_62 : decode cL_columns 62 = .ok (.iconst 3, 1) := by decide +kernel
theorem dL_columns_63 : decode cL_columns 63 = .ok (.iload 6, 2) := by decide +kernel
theorem dL_columns_65 : decode cL_columns 65 = .ok (.imul, 1) := by decide +kernel
theorem dL_columns_66 : decode cL_columns 66 = .ok (.iaload, 1) := by decide +kernel
theorem dL_columns_67 : decode cL_columns 67 = .ok (.aload_n 1, 1) := by decide +kernel
theorem dL_columns_68 : decode cL_columns 68 = .ok (.iconst 4, 1) := by decide +kernel
theorem dL_columns_69 : decode cL_columns 69 = .ok (.iload_n 3, 1) := by decide +kernel
theorem dL_columns_70 : decode cL_columns 70 = .ok (.imul, 1) := by decide +kernel
theorem dL_columns_71 : decode cL_columns 71 = .ok (.iaload, 1) := by decide +kernel
theorem dL_columns_72 : decode cL_columns 72 = .ok (.if_icmp .ge 21, 3) := by decide +kernel
theorem dL_columns_75 : decode cL_columns 75 = .ok (.iload 7, 2) := by decide +kernel
theorem dL_columns_77 : decode cL_columns 77 = .ok (.iload 8, 2) := by decide +kernel
theorem dL_columns_79 : decode cL_columns 79 = .ok (.if_icmp .gt 14, 3) := by decide +kernel
theorem dL_columns_82 : decode cL_columns 82 = .ok (.iload 7, 2) := by decide +kernel
theorem dL_columns_84 : decode cL_columns 84 = .ok (.ineg, 1) := by decide +kernel
theorem dL_columns_85 : decode cL_columns 85 = .ok (.iload 8, 2) := by decide +kernel
theorem dL_columns_87 : decode cL_columns 87 = .ok (.if_icmp .gt 6, 3) := by decide +kernel
theorem dL_columns_90 : decode cL_columns 90 = .ok (.iinc 5 1, 3) := by decide +kernel
theorem dL_columns_93 : decode cL_columns 93 = .ok (.iinc 6 1, 3) := by decide +kernel
theorem dL_columns_96 : decode cL_columns 96 = .ok (.goto (-90), 3) := by decide +kernel
theorem dL_columns_99 : decode cL_columns 99 = .ok (.iload 5, 2) := by decide +kernel
theorem dL_columns_101 : decode cL_columns 101 = .ok (.ireturn, 1) := by decide +kernel
theorem dL_all_0 : decode cL_all 0 = .ok (.iconst 0, 1) := by decide +kernel
theorem dL_all_1 : decode cL_all 1 = .ok (.istore_n 3, 1) := by decide +kernel
theorem dL_all_2 : decode cL_all 2 = .ok (.iconst 0, 1) := by decide +kernel
theorem dL_all_3 : decode cL_all 3 = .ok (.istore 4, 2) := by decide +kernel
theorem dL_all_5 : decode cL_all 5 = .ok (.iload 4, 2) := by decide +kernel
theorem dL_all_7 : decode cL_all 7 = .ok (.aload_n 0, 1) := by decide +kernel
theorem dL_all_8 : decode cL_all 8 = .ok (.iconst 0, 1) := by decide +kernel
theorem dL_all_9 : decode cL_all 9 = .ok (.iaload, 1) := by decide +kernel
theorem dL_all_10 : decode cL_all 10 = .ok (.if_icmp .ge 55, 3) := by decide +kernel
theorem dL_all_13 : decode cL_all 13 = .ok (.iconst 0, 1) := by decide +kernel
theorem dL_all_14 : decode cL_all 14 = .ok (.istore 5, 2) := by decide +kernel
theorem dL_all_16 : decode cL_all 16 = .ok (.iload 5, 2) := by decide +kernel
theorem dL_all_18 : decode cL_all 18 = .ok (.aload_n 1, 1) := by decide +kernel
theorem dL_all_19 : decode cL_all 19 = .ok (.iconst 4, 1) := by decide +kernel
theorem dL_all_20 : decode cL_all 20 = .ok (.iload 4, 2) := by decide +kernel
theorem dL_all_22 : decode cL_all 22 = .ok (.imul, 1) := by decide +kernel
theorem dL_all_23 : decode cL_all 23 = .ok (.iconst 2, 1) := by decide +kernel
theorem dL_all_24 : decode cL_all 24 = .ok (.iadd, 1) := by decide +kernel
theorem dL_all_25 : decode cL_all 25 = .ok (.iaload, 1) := by decide +kernel
theorem dL_all_26 : decode cL_all 26 = .ok (.if_icmp .ge 33, 3) := by decide +kernel
theorem dL_all_29 : decode cL_all 29 = .ok (.iload_n 3, 1) := by decide +kernel
theorem dL_all_30 : decode cL_all 30 = .ok (.iload_n 2, 1) := by decide +kernel
theorem dL_all_31 : decode cL_all 31 = .ok (.ifCond .ne 7, 3) := by decide +kernel
theorem dL_all_34 : decode cL_all 34 = .ok (.iconst 1, 1) := by decide +kernel
theorem dL_all_35 : decode cL_all 35 = .ok (.goto 16, 3) := by decide +kernel
theorem dL_all_38 : decode cL_all 38 = .ok (.aload_n 1, 1) := by decide +kernel
theorem dL_all_39 : decode cL_all 39 = .ok (.iconst 4, 1) := by decide +kernel
theorem dL_all_40 : decode cL_all 40 = .ok (.iload 4, 2) := by decide +kernel
theorem dL_all_42 : decode cL_all 42 = .ok (.imul, 1) := by decide +kernel
theorem dL_all_43 : decode cL_all 43 = .ok (.iconst 3, 1) := by decide +kernel
theorem dL_all_44 : decode cL_all 44 = .ok (.iadd, 1) := by decide +kernel
theorem dL_all_45 : decode cL_all 45 = .ok (.iaload, 1) := by decide +kernel
theorem dL_all_46 : decode cL_all 46 = .ok (.iload 5, 2) := by decide +kernel
theorem dL_all_48 : decode cL_all 48 = .ok (.ishr, 1) := by decide +kernel
theorem dL_all_49 : decode cL_all 49 = .ok (.iconst 1, 1) := by decide +kernel
theorem dL_all_50 : decode cL_all 50 = .ok (.iand, 1) := by decide +kernel
theorem dL_all_51 : decode cL_all 51 = .ok (.iadd, 1) := by decide +kernel
theorem dL_all_52 : decode cL_all 52 = .ok (.istore_n 3, 1) := by decide +kernel
theorem dL_all_53 : decode cL_all 53 = .ok (.iinc 5 1, 3) := by decide +kernel
theorem dL_all_56 : decode cL_all 56 = .ok (.goto (-40), 3) := by decide +kernel
theorem dL_all_59 : decode cL_all 59 = .ok (.iinc 4 1, 3) := by decide +kernel
theorem dL_all_62 : decode cL_all 62 = .ok (.goto (-57), 3) := by decide +kernel
theorem dL_all_65 : decode cL_all 65 = .ok (.iload_n 3, 1) := by decide +kernel
theorem dL_all_66 : decode cL_all 66 = .ok (.ireturn, 1) := by decide +kernel
