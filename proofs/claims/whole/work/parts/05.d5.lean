theorem dX5_init_0 : decode cX5_init 0 = .ok (.aload_n 0, 1) := by decide +kernel
theorem dX5_init_1 : decode cX5_init 1 = .ok (.invokespecial 1, 3) := by decide +kernel
theorem dX5_init_4 : decode cX5_init 4 = .ok (.aload_n 0, 1) := by decide +kernel
theorem dX5_init_5 : decode cX5_init 5 = .ok (.bipush 57, 2) := by decide +kernel
theorem dX5_init_7 : decode cX5_init 7 = .ok (.newarray .int, 2) := by decide +kernel
theorem dX5_init_9 : decode cX5_init 9 = .ok (.putfield 7, 3) := by decide +kernel
theorem dX5_init_12 : decode cX5_init 12 = .ok (.aload_n 0, 1) := by decide +kernel
theorem dX5_init_13 : decode cX5_init 13 = .ok (.sipush 342, 3) := by decide +kernel
theorem dX5_init_16 : decode cX5_init 16 = .ok (.newarray .int, 2) := by decide +kernel
theorem dX5_init_18 : decode cX5_init 18 = .ok (.putfield 13, 3) := by decide +kernel
theorem dX5_init_21 : decode cX5_init 21 = .ok (.aload_n 0, 1) := by decide +kernel
theorem dX5_init_22 : decode cX5_init 22 = .ok (.bipush 60, 2) := by decide +kernel
theorem dX5_init_24 : decode cX5_init 24 = .ok (.newarray .int, 2) := by decide +kernel
theorem dX5_init_26 : decode cX5_init 26 = .ok (.putfield 16, 3) := by decide +kernel
theorem dX5_init_29 : decode cX5_init 29 = .ok (.aload_n 0, 1) := by decide +kernel
theorem dX5_init_30 : decode cX5_init 30 = .ok (.bipush 33, 2) := by decide +kernel
theorem dX5_init_32 : decode cX5_init 32 = .ok (.newarray .int, 2) := by decide +kernel
theorem dX5_init_34 : decode cX5_init 34 = .ok (.putfield 19, 3) := by decide +kernel
theorem dX5_init_37 : decode cX5_init 37 = .ok (.aload_n 0, 1) := by decide +kernel
theorem dX5_init_38 : decode cX5_init 38 = .ok (.bipush 120, 2) := by decide +kernel
theorem dX5_init_40 : decode cX5_init 40 = .ok (.newarray .int, 2) := by decide +kernel
theorem dX5_init_42 : decode cX5_init 42 = .ok (.putfield 22, 3) := by decide +kernel
theorem dX5_init_45 : decode cX5_init 45 = .ok (.aload_n 0, 1) := by decide +kernel
theorem dX5_init_46 : decode cX5_init 46 = .ok (.getfield 7, 3) := by decide +kernel
theorem dX5_init_49 : decode cX5_init 49 = .ok (.iconst 0, 1) := by decide +kernel
theorem dX5_init_50 : decode cX5_init 50 = .ok (.bipush 100, 2) := by decide +kernel
theorem dX5_init_52 : decode cX5_init 52 = .ok (.iastore, 1) := by decide +kernel
theorem dX5_init_53 : decode cX5_init 53 = .ok (.aload_n 0, 1) := by decide +kernel
theorem dX5_init_54 : decode cX5_init 54 = .ok (.getfield 7, 3) := by decide +kernel
theorem dX5_init_57 : decode cX5_init 57 = .ok (.iconst 1, 1) := by decide +kernel
theorem dX5_init_58 : decode cX5_init 58 = .ok (.bipush 120, 2) := by decide +kernel
theorem dX5_init_60 : decode cX5_init 60 = .ok (.iastore, 1) := by decide +kernel
theorem dX5_init_61 : decode cX5_init 61 = .ok (.aload_n 0, 1) := by decide +kernel
theorem dX5_init_62 : decode cX5_init 62 = .ok (.getfield 7, 3) := by decide +kernel
theorem dX5_init_65 : decode cX5_init 65 = .ok (.iconst 2, 1) := by decide +kernel
theorem dX5_init_66 : decode cX5_init 66 = .ok (.bipush 12, 2) := by decide +kernel
theorem dX5_init_68 : decode cX5_init 68 = .ok (.iastore, 1) := by decide +kernel
theorem dX5_init_69 : decode cX5_init 69 = .ok (.return_, 1) := by decide +kernel
theorem dX5_thrown_0 : decode cX5_thrown 0 = .ok (.aload_n 0, 1) := by decide +kernel
theorem dX5_thrown_1 : decode cX5_thrown 1 = .ok (.getfield 25, 3) := by decide +kernel
theorem dX5_thrown_4 : decode cX5_thrown 4 = .ok (.ireturn, 1) := by decide +kernel
theorem dX5_within_0 : decode cX5_within 0 = .ok (.iload_n 0, 1) := by decide +kernel
theorem dX5_within_1 : decode cX5_within 1 = .ok (.iload_n 1, 1) := by decide +kernel
theorem dX5_within_2 : decode cX5_within 2 = .ok (.if_icmp .lt 12, 3) := by decide +kernel
theorem dX5_within_5 : decode cX5_within 5 = .ok (.iload_n 0, 1) := by decide +kernel
theorem dX5_within_6 : decode cX5_within 6 = .ok (.iload_n 2, 1) := by decide +kernel
theorem dX5_within_7 : decode cX5_within 7 = .ok (.if_icmp .gt 7, 3) := by decide +kernel
theorem dX5_within_10 : decode cX5_within 10 = .ok (.iconst 1, 1) := by decide +kernel
theorem dX5_within_11 : decode cX5_within 11 = .ok (.goto 4, 3) := by decide +kernel
theorem dX5_within_14 : decode cX5_within 14 = .ok (.iconst 0, 1) := by decide +kernel
theorem dX5_within_15 : decode cX5_within 15 = .ok (.ireturn, 1) := by decide +kernel
theorem dX5_save_0 : decode cX5_save 0 = .ok (.aload_n 0, 1) := by decide +kernel
theorem dX5_save_1 : decode cX5_save 1 = .ok (.getfield 29, 3) := by decide +kernel
theorem dX5_save_4 : decode cX5_save 4 = .ok (.bipush 6, 2) := by decide +kernel
theorem dX5_save_6 : decode cX5_save 6 = .ok (.if_icmp .ne 44, 3) := by decide +kernel
theorem dX5_save_9 : decode cX5_save 9 = .ok (.bipush 57, 2) := by decide +kernel
theorem dX5_save_11 : decode cX5_save 11 = .ok (.istore_n 1, 1) := by decide +kernel
theorem dX5_save_12 : decode cX5_save 12 = .ok (.iload_n 1, 1) := by decide +kernel
theorem dX5_save_13 : decode cX5_save 13 = .ok (.sipush 342, 3) := by decide +kernel
theorem dX5_save_16 : decode cX5_save 16 = .ok (.if_icmp .ge 24, 3) := by decide +kernel
theorem dX5_save_19 : decode cX5_save 19 = .ok (.aload_n 0, 1) := by decide +kernel
theorem dX5_save_20 : decode cX5_save 20 = .ok (.getfield 13, 3) := by decide +kernel
theorem dX5_save_23 : decode cX5_save 23 = .ok (.iload_n 1, 1) := by decide +kernel
theorem dX5_save_24 : decode cX5_save 24 = .ok (.bipush 57, 2) := by decide +kernel
theorem dX5_save_26 : decode cX5_save 26 = .ok (.isub, 1) := by decide +kernel
theorem dX5_save_27 : decode cX5_save 27 = .ok (.aload_n 0, 1) := by decide +kernel
theorem dX5_save_28 : decode cX5_save 28 = .ok (.getfield 13, 3) := by decide +kernel
theorem dX5_save_31 : decode cX5_save 31 = .ok (.iload_n 1, 1) := by decide +kernel
theorem dX5_save_32 : decode cX5_save 32 = .ok (.iaload, 1) := by decide +kernel
theorem dX5_save_33 : decode cX5_save 33 = .ok (.iastore, 1) := by decide +kernel
theorem dX5_save_34 : decode cX5_save 34 = .ok (.iinc 1 1, 3) := by decide +kernel
theorem dX5_save_37 : decode cX5_save 37 = .ok (.goto (-25), 3) := by decide +kernel
theorem dX5_save_40 : decode cX5_save 40 = .ok (.aload_n 0, 1) := by decide +kernel
theorem dX5_save_41 : decode cX5_save 41 = .ok (.dup, 1) := by decide +kernel
theorem dX5_save_42 : decode cX5_save 42 = .ok (.getfield 29, 3) := by decide +kernel
theorem dX5_save_45 : decode cX5_save 45 = .ok (.iconst 1, 1) := by decide +kernel
theorem dX5_save_46 : decode cX5_save 46 = .ok (.isub, 1) := by decide +kernel
theorem dX5_save_47 : decode cX5_save 47 = .ok (.putfield 29, 3) := by decide +kernel
theorem dX5_save_50 : decode cX5_save 50 = .ok (.iconst 0, 1) := by decide +kernel
theorem dX5_save_51 : decode cX5_save 51 = .ok (.istore_n 1, 1) := by decide +kernel
theorem dX5_save_52 : decode cX5_save 52 = .ok (.iload_n 1, 1) := by decide +kernel
theorem dX5_save_53 : decode cX5_save 53 = .ok (.bipush 57, 2) := by decide +kernel
theorem dX5_save_55 : decode cX5_save 55 = .ok (.if_icmp .ge 29, 3) := by decide +kernel
theorem dX5_save_58 : decode cX5_save 58 = .ok (.aload_n 0, 1) := by decide +kernel
theorem dX5_save_59 : decode cX5_save 59 = .ok (.getfield 13, 3) := by decide +kernel
theorem dX5_save_62 : decode cX5_save 62 = .ok (.bipush 57, 2) := by decide +kernel
theorem dX5_save_64 : decode cX5_save 64 = .ok (.aload_n 0, 1) := by decide +kernel
theorem dX5_save_65 : decode cX5_save 65 = .ok (.getfield 29, 3) := by decide +kernel
theorem dX5_save_68 : decode cX5_save 68 = .ok (.imul, 1) := by decide +kernel
theorem dX5_save_69 : decode cX5_save 69 = .ok (.iload_n 1, 1) := by decide +kernel
theorem dX5_save_70 : decode cX5_save 70 = .ok (.iadd, 1) := by decide +kernel
theorem dX5_save_71 : decode cX5_save 71 = .ok (.aload_n 0, 1) := by decide +kernel
theorem dX5_save_72 : decode cX5_save 72 = .ok (.getfield 7, 3) := by decide +kernel
theorem dX5_save_75 : decode cX5_save 75 = .ok (.iload_n 1, 1) := by decide +kernel
theorem dX5_save_76 : decode cX5_save 76 = .ok (.iaload, 1) := by decide +kernel
theorem dX5_save_77 : decode cX5_save 77 = .ok (.iastore, 1) := by decide +kernel
theorem dX5_save_78 : decode cX5_save 78 = .ok (.iinc 1 1, 3) := by decide +kernel
theorem dX5_save_81 : decode cX5_save 81 = .ok (.goto (-29), 3) := by decide +kernel
theorem dX5_save_84 : decode cX5_save 84 = .ok (.aload_n 0, 1) := by decide +kernel
theorem dX5_save_85 : decode cX5_save 85 = .ok (.dup, 1) := by decide +kernel
theorem dX5_save_86 : decode cX5_save 86 = .ok (.getfield 29, 3) := by decide +kernel
theorem dX5_save_89 : decode cX5_save 89 = .ok (.iconst 1, 1) := by decide +kernel
theorem dX5_save_90 : decode cX5_save 90 = .ok (.iadd, 1) := by decide +kernel
theorem dX5_save_91 : decode cX5_save 91 = .ok (.putfield 29, 3) := by decide +kernel
theorem dX5_save_94 : decode cX5_save 94 = .ok (.return_, 1) := by decide +kernel
theorem dX5_of_0 : decode cX5_of 0 = .ok (.aload_n 0, 1) := by decide +kernel
theorem dX5_of_1 : decode cX5_of 1 = .ok (.getfield 7, 3) := by decide +kernel
theorem dX5_of_4 : decode cX5_of 4 = .ok (.iconst 5, 1) := by decide +kernel
theorem dX5_of_5 : decode cX5_of 5 = .ok (.iconst 4, 1) := by decide +kernel
theorem dX5_of_6 : decode cX5_of 6 = .ok (.iload_n 1, 1) := by decide +kernel
theorem dX5_of_7 : decode cX5_of 7 = .ok (.imul, 1) := by decide +kernel
theorem dX5_of_8 : decode cX5_of 8 = .ok (.iadd, 1) := by decide +kernel
theorem dX5_of_9 : decode cX5_of 9 = .ok (.iload_n 2, 1) := by decide +kernel
theorem dX5_of_10 : decode cX5_of 10 = .ok (.iadd, 1) := by decide +kernel
theorem dX5_of_11 : decode cX5_of 11 = .ok (.iaload, 1) := by decide +kernel
theorem dX5_of_12 : decode cX5_of 12 = .ok (.ireturn, 1) := by decide +kernel
theorem dX5_put_0 : decode cX5_put 0 = .ok (.aload_n 0, 1) := by decide +kernel
theorem dX5_put_1 : decode cX5_put 1 = .ok (.getfield 7, 3) := by decide +kernel
theorem dX5_put_4 : decode cX5_put 4 = .ok (.iconst 5, 1) := by decide +kernel
theorem dX5_put_5 : decode cX5_put 5 = .ok (.iconst 4, 1) := by decide +kernel
theorem dX5_put_6 : decode cX5_put 6 = .ok (.iload_n 1, 1) := by decide +kernel
theorem dX5_put_7 : decode cX5_put 7 = .ok (.imul, 1) := by decide +kernel
theorem dX5_put_8 : decode cX5_put 8 = .ok (.iadd, 1) := by decide +kernel
theorem dX5_put_9 : decode cX5_put 9 = .ok (.iload_n 2, 1) := by decide +kernel
theorem dX5_put_10 : decode cX5_put 10 = .ok (.iadd, 1) := by decide +kernel
theorem dX5_put_11 : decode cX5_put 11 = .ok (.iload_n 3, 1) := by decide +kernel
theorem dX5_put_12 : decode cX5_put 12 = .ok (.iastore, 1) := by decide +kernel
theorem dX5_put_13 : decode cX5_put 13 = .ok (.return_, 1) := by decide +kernel
theorem dX5_ofColumn_0 : decode cX5_ofColumn 0 = .ok (.aload_n 0, 1) := by decide +kernel
theorem dX5_ofColumn_1 : decode cX5_ofColumn 1 = .ok (.getfield 7, 3) := by decide +kernel
theorem dX5_ofColumn_4 : decode cX5_ofColumn 4 = .ok (.bipush 45, 2) := by decide +kernel
theorem dX5_ofColumn_6 : decode cX5_ofColumn 6 = .ok (.iconst 3, 1) := by decide +kernel
theorem dX5_ofColumn_7 : decode cX5_ofColumn 7 = .ok (.iload_n 1, 1) := by decide +kernel
theorem dX5_ofColumn_8 : decode cX5_ofColumn 8 = .ok (.imul, 1) := by decide +kernel
theorem dX5_ofColumn_9 : decode cX5_ofColumn 9 = .ok (.iadd, 1) := by decide +kernel
theorem dX5_ofColumn_10 : decode cX5_ofColumn 10 = .ok (.iload_n 2, 1) := by decide +kernel
theorem dX5_ofColumn_11 : decode cX5_ofColumn 11 = .ok (.iadd, 1) := by decide +kernel
theorem dX5_ofColumn_12 : decode cX5_ofColumn 12 = .ok (.iaload, 1) := by decide +kernel
theorem dX5_ofColumn_13 : decode cX5_ofColumn 13 = .ok (.ireturn, 1) := by decide +kernel
set_option maxRecDepth 20000 in
theorem ggX5_isRow_X5_within : GoodIn wsX5_isRow wsX5_within := goodIn_r _ [5] (by decide +kernel) (by decide +kernel)
set_option maxRecDepth 20000 in
theorem gX5_isRow_X5_within : GoodIn wsX5_isRow (va_wsS RX5 32 yX5_within wsX5_within) := goodIn_app (goodIn_of _ (by decide +kernel)) ggX5_isRow_X5_within
theorem dX5_isRow_0 : decode cX5_isRow 0 = .ok (.iload_n 1, 1) := by decide +kernel
theorem dX5_isRow_1 : decode cX5_isRow 1 = .ok (.iconst 0, 1) := by decide +kernel
theorem dX5_isRow_2 : decode cX5_isRow 2 = .ok (.aload_n 0, 1) := by decide +kernel
theorem dX5_isRow_3 : decode cX5_isRow 3 = .ok (.getfield 7, 3) := by decide +kernel
theorem dX5_isRow_6 : decode cX5_isRow 6 = .ok (.iconst 3, 1) := by decide +kernel
theorem dX5_isRow_7 : decode cX5_isRow 7 = .ok (.iaload, 1) := by decide +kernel
theorem dX5_isRow_8 : decode cX5_isRow 8 = .ok (.iconst 1, 1) := by decide +kernel
theorem dX5_isRow_9 : decode cX5_isRow 9 = .ok (.isub, 1) := by decide +kernel
theorem dX5_isRow_10 : decode cX5_isRow 10 = .ok (.invokestatic 32, 3) := by decide +kernel
theorem dX5_isRow_13 : decode cX5_isRow 13 = .ok (.ireturn, 1) := by decide +kernel
set_option maxRecDepth 20000 in
theorem ggX5_isSeat_X5_isRow : GoodIn wsX5_isSeat wsX5_isRow := goodIn_r _ [5, 6, 7, 8, 4, 9, 14, 15, 16, 17, 18, 19, 20, 21, 22, 23, 24, 25] (by decide +kernel) (by decide +kernel)
set_option maxRecDepth 20000 in
theorem gX5_isSeat_X5_isRow : GoodIn wsX5_isSeat (wsV RX5 36 RX5 yX5_isRow wsX5_isRow) := goodIn_app (goodIn_of _ (by decide +kernel)) ggX5_isSeat_X5_isRow
set_option maxRecDepth 20000 in
theorem ggX5_isSeat_X5_of : GoodIn wsX5_isSeat wsX5_of := goodIn_r _ [13, 6, 14, 15, 16, 17, 18, 19, 20, 21, 22, 23, 24, 25] (by decide +kernel) (by decide +kernel)
set_option maxRecDepth 20000 in
theorem gX5_isSeat_X5_of : GoodIn wsX5_isSeat (wsV RX5 40 RX5 yX5_of wsX5_of) := goodIn_app (goodIn_of _ (by decide +kernel)) ggX5_isSeat_X5_of
set_option maxRecDepth 20000 in
theorem ggX5_isSeat_X5_within : GoodIn wsX5_isSeat wsX5_within := goodIn_r _ [9] (by decide +kernel) (by decide +kernel)
set_option maxRecDepth 20000 in
theorem gX5_isSeat_X5_within : GoodIn wsX5_isSeat (va_wsS RX5 32 yX5_within wsX5_within) := goodIn_app (goodIn_of _ (by decide +kernel)) ggX5_isSeat_X5_within
theorem dX5_isSeat_0 : decode cX5_isSeat 0 = .ok (.aload_n 0, 1) := by decide +kernel
theorem dX5_isSeat_1 : decode cX5_isSeat 1 = .ok (.iload_n 1, 1) := by decide +kernel
theorem dX5_isSeat_2 : decode cX5_isSeat 2 = .ok (.invokevirtual 36, 3) := by decide +kernel
theorem dX5_isSeat_5 : decode cX5_isSeat 5 = .ok (.ifCond .eq 23, 3) := by decide +kernel
theorem dX5_isSeat_8 : decode cX5_isSeat 8 = .ok (.iload_n 2, 1) := by decide +kernel
theorem dX5_isSeat_9 : decode cX5_isSeat 9 = .ok (.iconst 0, 1) := by decide +kernel
theorem dX5_isSeat_10 : decode cX5_isSeat 10 = .ok (.aload_n 0, 1) := by decide +kernel
theorem dX5_isSeat_11 : decode cX5_isSeat 11 = .ok (.iload_n 1, 1) := by decide +kernel
theorem dX5_isSeat_12 : decode cX5_isSeat 12 = .ok (.iconst 2, 1) := by decide +kernel
theorem dX5_isSeat_13 : decode cX5_isSeat 13 = .ok (.invokevirtual 40, 3) := by decide +kernel
theorem dX5_isSeat_16 : decode cX5_isSeat 16 = .ok (.iconst 1, 1) := by decide +kernel
theorem dX5_isSeat_17 : decode cX5_isSeat 17 = .ok (.isub, 1) := by decide +kernel
theorem dX5_isSeat_18 : decode cX5_isSeat 18 = .ok (.invokestatic 32, 3) := by decide +kernel
theorem dX5_isSeat_21 : decode cX5_isSeat 21 = .ok (.ifCond .eq 7, 3) := by decide +kernel
theorem dX5_isSeat_24 : decode cX5_isSeat 24 = .ok (.iconst 1, 1) := by decide +kernel
theorem dX5_isSeat_25 : decode cX5_isSeat 25 = .ok (.goto 4, 3) := by decide +kernel
theorem dX5_isSeat_28 : decode cX5_isSeat 28 = .ok (.iconst 0, 1) := by decide +kernel
theorem dX5_isSeat_29 : decode cX5_isSeat 29 = .ok (.ireturn, 1) := by decide +kernel
set_option maxRecDepth 20000 in
theorem ggX5_isColumn_X5_within : GoodIn wsX5_isColumn wsX5_within := goodIn_r _ [5] (by decide +kernel) (by decide +kernel)
set_option maxRecDepth 20000 in
theorem gX5_isColumn_X5_within : GoodIn wsX5_isColumn (va_wsS RX5 32 yX5_within wsX5_within) := goodIn_app (goodIn_of _ (by decide +kernel)) ggX5_isColumn_X5_within
theorem dX5_isColumn_0 : decode cX5_isColumn 0 = .ok (.iload_n 1, 1) := by decide +kernel
theorem dX5_isColumn_1 : decode cX5_isColumn 1 = .ok (.iconst 0, 1) := by decide +kernel
theorem dX5_isColumn_2 : decode cX5_isColumn 2 = .ok (.aload_n 0, 1) := by decide +kernel
theorem dX5_isColumn_3 : decode cX5_isColumn 3 = .ok (.getfield 7, 3) := by decide +kernel
theorem dX5_isColumn_6 : decode cX5_isColumn 6 = .ok (.iconst 4, 1) := by decide +kernel
theorem dX5_isColumn_7 : decode cX5_isColumn 7 = .ok (.iaload, 1) := by decide +kernel
theorem dX5_isColumn_8 : decode cX5_isColumn 8 = .ok (.iconst 1, 1) := by decide +kernel
theorem dX5_isColumn_9 : decode cX5_isColumn 9 = .ok (.isub, 1) := by decide +kernel
theorem dX5_isColumn_10 : decode cX5_isColumn 10 = .ok (.invokestatic 32, 3) := by decide +kernel
theorem dX5_isColumn_13 : decode cX5_isColumn 13 = .ok (.ireturn, 1) := by decide +kernel
set_option maxRecDepth 20000 in
theorem ggX5_isTaken_X5_of : GoodIn wsX5_isTaken wsX5_of := goodIn_r _ [5, 6, 7, 8, 9, 10, 11, 12, 13, 14, 15, 16, 17, 18] (by decide +kernel) (by decide +kernel)
set_option maxRecDepth 20000 in
theorem gX5_isTaken_X5_of : GoodIn wsX5_isTaken (wsV RX5 40 RX5 yX5_of wsX5_of) := goodIn_app (goodIn_of _ (by decide +kernel)) ggX5_isTaken_X5_of
theorem dX5_isTaken_0 : decode cX5_isTaken 0 = .ok (.aload_n 0, 1) := by decide +kernel
theorem dX5_isTaken_1 : decode cX5_isTaken 1 = .ok (.iload_n 1, 1) := by decide +kernel
theorem dX5_isTaken_2 : decode cX5_isTaken 2 = .ok (.iconst 3, 1) := by decide +kernel
theorem dX5_isTaken_3 : decode cX5_isTaken 3 = .ok (.invokevirtual 40, 3) := by decide +kernel
theorem dX5_isTaken_6 : decode cX5_isTaken 6 = .ok (.iload_n 2, 1) := by decide +kernel
theorem dX5_isTaken_7 : decode cX5_isTaken 7 = .ok (.ishr, 1) := by decide +kernel
theorem dX5_isTaken_8 : decode cX5_isTaken 8 = .ok (.iconst 1, 1) := by decide +kernel
theorem dX5_isTaken_9 : decode cX5_isTaken 9 = .ok (.iand, 1) := by decide +kernel
theorem dX5_isTaken_10 : decode cX5_isTaken 10 = .ok (.iconst 1, 1) := by decide +kernel
theorem dX5_isTaken_11 : decode cX5_isTaken 11 = .ok (.if_icmp .ne 7, 3) := by decide +kernel
theorem dX5_isTaken_14 : decode cX5_isTaken 14 = .ok (.iconst 1, 1) := by decide +kernel
theorem dX5_isTaken_15 : decode cX5_isTaken 15 = .ok (.goto 4, 3) := by decide +kernel
theorem dX5_isTaken_18 : decode cX5_isTaken 18 = .ok (.iconst 0, 1) := by decide +kernel
theorem dX5_isTaken_19 : decode cX5_isTaken 19 = .ok (.ireturn, 1) := by decide +kernel
set_option maxRecDepth 20000 in
theorem ggX5_sideOf_X5_of : GoodIn wsX5_sideOf wsX5_of := goodIn_r _ [5, 6, 7, 8, 9, 10, 11, 12, 13, 14, 15, 16, 17, 18] (by decide +kernel) (by decide +kernel)
set_option maxRecDepth 20000 in
theorem gX5_sideOf_X5_of : GoodIn wsX5_sideOf (wsV RX5 40 RX5 yX5_of wsX5_of) := goodIn_app (goodIn_of _ (by decide +kernel)) ggX5_sideOf_X5_of
theorem dX5_sideOf_0 : decode cX5_sideOf 0 = .ok (.iconst 2, 1) := by decide +kernel
theorem dX5_sideOf_1 : decode cX5_sideOf 1 = .ok (.iload_n 2, 1) := by decide +kernel
theorem dX5_sideOf_2 : decode cX5_sideOf 2 = .ok (.imul, 1) := by decide +kernel
theorem dX5_sideOf_3 : decode cX5_sideOf 3 = .ok (.aload_n 0, 1) := by decide +kernel
theorem dX5_sideOf_4 : decode cX5_sideOf 4 = .ok (.iload_n 1, 1) := by decide +kernel
theorem dX5_sideOf_5 : decode cX5_sideOf 5 = .ok (.iconst 2, 1) := by decide +kernel
theorem dX5_sideOf_6 : decode cX5_sideOf 6 = .ok (.invokevirtual 40, 3) := by decide +kernel
theorem dX5_sideOf_9 : decode cX5_sideOf 9 = .ok (.iconst 1, 1) := by decide +kernel
theorem dX5_sideOf_10 : decode cX5_sideOf 10 = .ok (.isub, 1) := by decide +kernel
theorem dX5_sideOf_11 : decode cX5_sideOf 11 = .ok (.isub, 1) := by decide +kernel
theorem dX5_sideOf_12 : decode cX5_sideOf 12 = .ok (.ireturn, 1) := by decide +kernel
theorem dX5_size_0 : decode cX5_size 0 = .ok (.iload_n 0, 1) := by decide +kernel
theorem dX5_size_1 : decode cX5_size 1 = .ok (.ifCond .ge 8, 3) := by decide +kernel
theorem dX5_size_4 : decode cX5_size 4 = .ok (.iload_n 0, 1) := by decide +kernel
theorem dX5_size_5 : decode cX5_size 5 = .ok (.ineg, 1) := by decide +kernel
theorem dX5_size_6 : decode cX5_size 6 = .ok (.goto 4, 3) := by decide +kernel
theorem dX5_size_9 : decode cX5_size 9 = .ok (.iload_n 0, 1) := by decide +kernel
theorem dX5_size_10 : decode cX5_size 10 = .ok (.ireturn, 1) := by decide +kernel
set_option maxRecDepth 20000 in
theorem ggX5_isHigher_X5_of : GoodIn wsX5_isHigher wsX5_of := goodIn_r _ [6, 1, 7, 8, 9, 10, 11, 12, 13, 14, 15, 16, 17, 18] (by decide +kernel) (by decide +kernel)
set_option maxRecDepth 20000 in
theorem gX5_isHigher_X5_of : GoodIn wsX5_isHigher (wsV RX5 40 RX5 yX5_of wsX5_of) := goodIn_app (goodIn_of _ (by decide +kernel)) ggX5_isHigher_X5_of
theorem dX5_isHigher_0 : decode cX5_isHigher 0 = .ok (.aload_n 0, 1) := by decide +kernel
theorem dX5_isHigher_1 : decode cX5_isHigher 1 = .ok (.iload_n 1, 1) := by decide +kernel
theorem dX5_isHigher_2 : decode cX5_isHigher 2 = .ok (.iconst 1, 1) := by decide +kernel
theorem dX5_isHigher_3 : decode cX5_isHigher 3 = .ok (.invokevirtual 40, 3) := by decide +kernel
theorem dX5_isHigher_6 : decode cX5_isHigher 6 = .ok (.aload_n 0, 1) := by decide +kernel
theorem dX5_isHigher_7 : decode cX5_isHigher 7 = .ok (.getfield 7, 3) := by decide +kernel
theorem dX5_isHigher_10 : decode cX5_isHigher 10 = .ok (.iconst 1, 1) := by decide +kernel
theorem dX5_isHigher_11 : decode cX5_isHigher 11 = .ok (.iaload, 1) := by decide +kernel
theorem dX5_isHigher_12 : decode cX5_isHigher 12 = .ok (.iadd, 1) := by decide +kernel
theorem dX5_isHigher_13 : decode cX5_isHigher 13 = .ok (.aload_n 0, 1) := by decide +kernel
theorem dX5_isHigher_14 : decode cX5_isHigher 14 = .ok (.getfield 7, 3) := by decide +kernel
theorem dX5_isHigher_17 : decode cX5_isHigher 17 = .ok (.iconst 2, 1) := by decide +kernel
theorem dX5_isHigher_18 : decode cX5_isHigher 18 = .ok (.iaload, 1) := by decide +kernel
theorem dX5_isHigher_19 : decode cX5_isHigher 19 = .ok (.iadd, 1) := by decide +kernel
theorem dX5_isHigher_20 : decode cX5_isHigher 20 = .ok (.aload_n 0, 1) := by decide +kernel
theorem dX5_isHigher_21 : decode cX5_isHigher 21 = .ok (.getfield 7, 3) := by decide +kernel
theorem dX5_isHigher_24 : decode cX5_isHigher 24 = .ok (.iconst 0, 1) := by decide +kernel
theorem dX5_isHigher_25 : decode cX5_isHigher 25 = .ok (.iaload, 1) := by decide +kernel
theorem dX5_isHigher_26 : decode cX5_isHigher 26 = .ok (.isub, 1) := by decide +kernel
theorem dX5_isHigher_27 : decode cX5_isHigher 27 = .ok (.istore_n 3, 1) := by decide +kernel
theorem dX5_isHigher_28 : decode cX5_isHigher 28 = .ok (.aload_n 0, 1) := by decide +kernel
theorem dX5_isHigher_29 : decode cX5_isHigher 29 = .ok (.iload_n 2, 1) := by decide +kernel
theorem dX5_isHigher_30 : decode cX5_isHigher 30 = .ok (.iconst 1, 1) := by decide +kernel
theorem dX5_isHigher_31 : decode cX5_isHigher 31 = .ok (.invokevirtual 40, 3) := by decide +kernel
theorem dX5_isHigher_34 : decode cX5_isHigher 34 = .ok (.aload_n 0, 1) := by decide +kernel
theorem dX5_isHigher_35 : decode cX5_isHigher 35 = .ok (.getfield 7, 3) := by decide +kernel
theorem dX5_isHigher_38 : decode cX5_isHigher 38 = .ok (.iconst 1, 1) := by decide +kernel
theorem dX5_isHigher_39 : decode cX5_isHigher 39 = .ok (.iaload, 1) := by decide +kernel
theorem dX5_isHigher_40 : decode cX5_isHigher 40 = .ok (.iadd, 1) := by decide +kernel
theorem dX5_isHigher_41 : decode cX5_isHigher 41 = .ok (.aload_n 0, 1) := by decide +kernel
theorem dX5_isHigher_42 : decode cX5_isHigher 42 = .ok (.getfield 7, 3) := by decide +kernel
theorem dX5_isHigher_45 : decode cX5_isHigher 45 = .ok (.iconst 0, 1) := by decide +kernel
theorem dX5_isHigher_46 : decode cX5_isHigher 46 = .ok (.iaload, 1) := by decide +kernel
theorem dX5_isHigher_47 : decode cX5_isHigher 47 = .ok (.isub, 1) := by decide +kernel
theorem dX5_isHigher_48 : decode cX5_isHigher 48 = .ok (.istore 4, 2) := by decide +kernel
theorem dX5_isHigher_50 : decode cX5_isHigher 50 = .ok (.iload_n 3, 1) := by decide +kernel
theorem dX5_isHigher_51 : decode cX5_isHigher 51 = .ok (.aload_n 0, 1) := by decide +kernel
theorem dX5_isHigher_52 : decode cX5_isHigher 52 = .ok (.iload_n 2, 1) := by decide +kernel
theorem dX5_isHigher_53 : decode cX5_isHigher 53 = .ok (.iconst 0, 1) := by decide +kernel
theorem dX5_isHigher_54 : decode cX5_isHigher 54 = .ok (.invokevirtual 40, 3) := by decide +kernel
theorem dX5_isHigher_57 : decode cX5_isHigher 57 = .ok (.imul, 1) := by decide +kernel
theorem dX5_isHigher_58 : decode cX5_isHigher 58 = .ok (.iload 4, 2) := by decide +kernel
theorem dX5_isHigher_60 : decode cX5_isHigher 60 = .ok (.aload_n 0, 1) := by decide +kernel
theorem dX5_isHigher_61 : decode cX5_isHigher 61 = .ok (.iload_n 1, 1) := by decide +kernel
theorem dX5_isHigher_62 : decode cX5_isHigher 62 = .ok (.iconst 0, 1) := by decide +kernel
theorem dX5_isHigher_63 : decode cX5_isHigher 63 = .ok (.invokevirtual 40, 3) := by decide +kernel
theorem dX5_isHigher_66 : decode cX5_isHigher 66 = .ok (.imul, 1) := by decide +kernel
theorem dX5_isHigher_67 : decode cX5_isHigher 67 = .ok (.if_icmp .le 7, 3) := by decide +kernel
theorem dX5_isHigher_70 : decode cX5_isHigher 70 = .ok (.iconst 1, 1) := by decide +kernel
theorem dX5_isHigher_71 : decode cX5_isHigher 71 = .ok (.goto 4, 3) := by decide +kernel
theorem dX5_isHigher_74 : decode cX5_isHigher 74 = .ok (.iconst 0, 1) := by decide +kernel
theorem dX5_isHigher_75 : decode cX5_isHigher 75 = .ok (.ireturn, 1) := by decide +kernel
set_option maxRecDepth 20000 in
theorem ggX5_blocks_X5_isHigher : GoodIn wsX5_blocks wsX5_isHigher := goodIn_r _ [5, 6, 7, 8, 9, 4, 10, 18, 19, 20, 21, 22, 23, 24, 25, 26, 27, 28, 29] (by decide +kernel) (by decide +kernel)
set_option maxRecDepth 20000 in
theorem gX5_blocks_X5_isHigher : GoodIn wsX5_blocks (wsV RX5 44 RX5 yX5_isHigher wsX5_isHigher) := goodIn_app (goodIn_of _ (by decide +kernel)) ggX5_blocks_X5_isHigher
set_option maxRecDepth 20000 in
theorem ggX5_blocks_X5_sideOf : GoodIn wsX5_blocks wsX5_sideOf := goodIn_r _ [14, 7, 8, 9, 4, 10, 6, 18, 19, 20, 21, 22, 23, 24, 25, 26, 27, 28, 29] (by decide +kernel) (by decide +kernel)
set_option maxRecDepth 20000 in
theorem gX5_blocks_X5_sideOf : GoodIn wsX5_blocks (wsV RX5 48 RX5 yX5_sideOf wsX5_sideOf) := goodIn_app (goodIn_of _ (by decide +kernel)) ggX5_blocks_X5_sideOf
set_option maxRecDepth 20000 in
theorem ggX5_blocks_X5_of : GoodIn wsX5_blocks wsX5_of := goodIn_r _ [10, 6, 18, 19, 20, 21, 22, 23, 24, 25, 26, 27, 28, 29] (by decide +kernel) (by decide +kernel)
set_option maxRecDepth 20000 in
theorem gX5_blocks_X5_of : GoodIn wsX5_blocks (wsV RX5 40 RX5 yX5_of wsX5_of) := goodIn_app (goodIn_of _ (by decide +kernel)) ggX5_blocks_X5_of
set_option maxRecDepth 20000 in
theorem ggX5_blocks_X5_size : GoodIn wsX5_blocks wsX5_size := goodIn_r _ [17] (by decide +kernel) (by decide +kernel)
set_option maxRecDepth 20000 in
theorem gX5_blocks_X5_size : GoodIn wsX5_blocks (va_wsS RX5 51 yX5_size wsX5_size) := goodIn_app (goodIn_of _ (by decide +kernel)) ggX5_blocks_X5_size
theorem dX5_blocks_0 : decode cX5_blocks 0 = .ok (.iload_n 1, 1) := by decide +kernel
theorem dX5_blocks_1 : decode cX5_blocks 1 = .ok (.iload_n 3, 1) := by decide +kernel
theorem dX5_blocks_2 : decode cX5_blocks 2 = .ok (.if_icmp .ge 12, 3) := by decide +kernel
theorem dX5_blocks_5 : decode cX5_blocks 5 = .ok (.aload_n 0, 1) := by decide +kernel
theorem dX5_blocks_6 : decode cX5_blocks 6 = .ok (.iload_n 1, 1) := by decide +kernel
theorem dX5_blocks_7 : decode cX5_blocks 7 = .ok (.iload_n 3, 1) := by decide +kernel
theorem dX5_blocks_8 : decode cX5_blocks 8 = .ok (.invokevirtual 44, 3) := by decide +kernel
theorem dX5_blocks_11 : decode cX5_blocks 11 = .ok (.ifCond .ne 5, 3) := by decide +kernel
theorem dX5_blocks_14 : decode cX5_blocks 14 = .ok (.iconst 0, 1) := by decide +kernel
theorem dX5_blocks_15 : decode cX5_blocks 15 = .ok (.ireturn, 1) := by decide +kernel
theorem dX5_blocks_16 : decode cX5_blocks 16 = .ok (.aload_n 0, 1) := by decide +kernel
theorem dX5_blocks_17 : decode cX5_blocks 17 = .ok (.iload_n 1, 1) := by decide +kernel
theorem dX5_blocks_18 : decode cX5_blocks 18 = .ok (.iload_n 2, 1) := by decide +kernel
theorem dX5_blocks_19 : decode cX5_blocks 19 = .ok (.invokevirtual 48, 3) := by decide +kernel
theorem dX5_blocks_22 : decode cX5_blocks 22 = .ok (.aload_n 0, 1) := by decide +kernel
theorem dX5_blocks_23 : decode cX5_blocks 23 = .ok (.iload_n 3, 1) := by decide +kernel
theorem dX5_blocks_24 : decode cX5_blocks 24 = .ok (.iconst 0, 1) := by decide +kernel
theorem dX5_blocks_25 : decode cX5_blocks 25 = .ok (.invokevirtual 40, 3) := by decide +kernel
theorem dX5_blocks_28 : decode cX5_blocks 28 = .ok (.imul, 1) := by decide +kernel
theorem dX5_blocks_29 : decode cX5_blocks 29 = .ok (.aload_n 0, 1) := by decide +kernel
theorem dX5_blocks_30 : decode cX5_blocks 30 = .ok (.iload_n 3, 1) := by decide +kernel
theorem dX5_blocks_31 : decode cX5_blocks 31 = .ok (.iload 4, 2) := by decide +kernel
theorem dX5_blocks_33 : decode cX5_blocks 33 = .ok (.invokevirtual 48, 3) := by decide +kernel
theorem dX5_blocks_36 : decode cX5_blocks 36 = .ok (.aload_n 0, 1) := by decide +kernel
theorem dX5_blocks_37 : decode cX5_blocks 37 = .ok (.iload_n 1, 1) := by decide +kernel
theorem dX5_blocks_38 : decode cX5_blocks 38 = .ok (.iconst 0, 1) := by decide +kernel
theorem dX5_blocks_39 : decode cX5_blocks 39 = .ok (.invokevirtual 40, 3) := by decide +kernel
theorem dX5_blocks_42 : decode cX5_blocks 42 = .ok (.imul, 1) := by decide +kernel
theorem dX5_blocks_43 : decode cX5_blocks 43 = .ok (.isub, 1) := by decide +kernel
theorem dX5_blocks_44 : decode cX5_blocks 44 = .ok (.istore 5, 2) := by decide +kernel
theorem dX5_blocks_46 : decode cX5_blocks 46 = .ok (.iload 5, 2) := by decide +kernel
theorem dX5_blocks_48 : decode cX5_blocks 48 = .ok (.invokestatic 51, 3) := by decide +kernel
theorem dX5_blocks_51 : decode cX5_blocks 51 = .ok (.aload_n 0, 1) := by decide +kernel
theorem dX5_blocks_52 : decode cX5_blocks 52 = .ok (.iload_n 3, 1) := by decide +kernel
theorem dX5_blocks_53 : decode cX5_blocks 53 = .ok (.iconst 0, 1) := by decide +kernel
theorem dX5_blocks_54 : decode cX5_blocks 54 = .ok (.invokevirtual 40, 3) := by decide +kernel
theorem dX5_blocks_57 : decode cX5_blocks 57 = .ok (.if_icmp .ge 7, 3) := by decide +kernel
theorem dX5_blocks_60 : decode cX5_blocks 60 = .ok (.iconst 1, 1) := by decide +kernel
theorem dX5_blocks_61 : decode cX5_blocks 61 = .ok (.goto 4, 3) := by decide +kernel
theorem dX5_blocks_64 : decode cX5_blocks 64 = .ok (.iconst 0, 1) := by decide +kernel
theorem dX5_blocks_65 : decode cX5_blocks 65 = .ok (.ireturn, 1) := by decide +kernel
set_option maxRecDepth 20000 in
theorem ggX5_columnBlocks_X5_ofColumn : GoodIn wsX5_columnBlocks wsX5_ofColumn := goodIn_r _ [5, 6, 18, 19, 20, 21, 22, 23, 24, 25, 26, 27, 28, 29] (by decide +kernel) (by decide +kernel)
set_option maxRecDepth 20000 in
theorem gX5_columnBlocks_X5_ofColumn : GoodIn wsX5_columnBlocks (wsV RX5 55 RX5 yX5_ofColumn wsX5_ofColumn) := goodIn_app (goodIn_of _ (by decide +kernel)) ggX5_columnBlocks_X5_ofColumn
set_option maxRecDepth 20000 in
theorem ggX5_columnBlocks_X5_of : GoodIn wsX5_columnBlocks wsX5_of := goodIn_r _ [10, 6, 18, 19, 20, 21, 22, 23, 24, 25, 26, 27, 28, 29] (by decide +kernel) (by decide +kernel)
set_option maxRecDepth 20000 in
theorem gX5_columnBlocks_X5_of : GoodIn wsX5_columnBlocks (wsV RX5 40 RX5 yX5_of wsX5_of) := goodIn_app (goodIn_of _ (by decide +kernel)) ggX5_columnBlocks_X5_of
set_option maxRecDepth 20000 in
theorem ggX5_columnBlocks_X5_sideOf : GoodIn wsX5_columnBlocks wsX5_sideOf := goodIn_r _ [14, 7, 8, 9, 4, 10, 6, 18, 19, 20, 21, 22, 23, 24, 25, 26, 27, 28, 29] (by decide +kernel) (by decide +kernel)
set_option maxRecDepth 20000 in
theorem gX5_columnBlocks_X5_sideOf : GoodIn wsX5_columnBlocks (wsV RX5 48 RX5 yX5_sideOf wsX5_sideOf) := goodIn_app (goodIn_of _ (by decide +kernel)) ggX5_columnBlocks_X5_sideOf
set_option maxRecDepth 20000 in
theorem ggX5_columnBlocks_X5_size : GoodIn wsX5_columnBlocks wsX5_size := goodIn_r _ [17] (by decide +kernel) (by decide +kernel)
set_option maxRecDepth 20000 in
theorem gX5_columnBlocks_X5_size : GoodIn wsX5_columnBlocks (va_wsS RX5 51 yX5_size wsX5_size) := goodIn_app (goodIn_of _ (by decide +kernel)) ggX5_columnBlocks_X5_size
theorem dX5_columnBlocks_0 : decode cX5_columnBlocks 0 = .ok (.aload_n 0, 1) := by decide +kernel
theorem dX5_columnBlocks_1 : decode cX5_columnBlocks 1 = .ok (.iload_n 1, 1) := by decide +kernel
theorem dX5_columnBlocks_2 : decode cX5_columnBlocks 2 = .ok (.iconst 0, 1) := by decide +kernel
theorem dX5_columnBlocks_3 : decode cX5_columnBlocks 3 = .ok (.invokevirtual 55, 3) := by decide +kernel
theorem dX5_columnBlocks_6 : decode cX5_columnBlocks 6 = .ok (.istore 4, 2) := by decide +kernel
theorem dX5_columnBlocks_8 : decode cX5_columnBlocks 8 = .ok (.aload_n 0, 1) := by decide +kernel
theorem dX5_columnBlocks_9 : decode cX5_columnBlocks 9 = .ok (.iload_n 1, 1) := by decide +kernel
theorem dX5_columnBlocks_10 : decode cX5_columnBlocks 10 = .ok (.iconst 1, 1) := by decide +kernel
theorem dX5_columnBlocks_11 : decode cX5_columnBlocks 11 = .ok (.invokevirtual 55, 3) := by decide +kernel
theorem dX5_columnBlocks_14 : decode cX5_columnBlocks 14 = .ok (.aload_n 0, 1) := by decide +kernel
theorem dX5_columnBlocks_15 : decode cX5_columnBlocks 15 = .ok (.iload_n 2, 1) := by decide +kernel
theorem dX5_columnBlocks_16 : decode cX5_columnBlocks 16 = .ok (.iconst 0, 1) := by decide +kernel
theorem dX5_columnBlocks_17 : decode cX5_columnBlocks 17 = .ok (.invokevirtual 40, 3) := by decide +kernel
theorem dX5_columnBlocks_20 : decode cX5_columnBlocks 20 = .ok (.imul, 1) := by decide +kernel
theorem dX5_columnBlocks_21 : decode cX5_columnBlocks 21 = .ok (.aload_n 0, 1) := by decide +kernel
theorem dX5_columnBlocks_22 : decode cX5_columnBlocks 22 = .ok (.iload_n 2, 1) := by decide +kernel
theorem dX5_columnBlocks_23 : decode cX5_columnBlocks 23 = .ok (.iload_n 3, 1) := by decide +kernel
theorem dX5_columnBlocks_24 : decode cX5_columnBlocks 24 = .ok (.invokevirtual 48, 3) := by decide +kernel
theorem dX5_columnBlocks_27 : decode cX5_columnBlocks 27 = .ok (.iload 4, 2) := by decide +kernel
theorem dX5_columnBlocks_29 : decode cX5_columnBlocks 29 = .ok (.imul, 1) := by decide +kernel
theorem dX5_columnBlocks_30 : decode cX5_columnBlocks 30 = .ok (.isub, 1) := by decide +kernel
theorem dX5_columnBlocks_31 : decode cX5_columnBlocks 31 = .ok (.istore 5, 2) := by decide +kernel
theorem dX5_columnBlocks_33 : decode cX5_columnBlocks 33 = .ok (.iload 4, 2) := by decide +kernel
theorem dX5_columnBlocks_35 : decode cX5_columnBlocks 35 = .ok (.aload_n 0, 1) := by decide +kernel
theorem dX5_columnBlocks_36 : decode cX5_columnBlocks 36 = .ok (.iload_n 2, 1) := by decide +kernel
theorem dX5_columnBlocks_37 : decode cX5_columnBlocks 37 = .ok (.iconst 0, 1) := by decide +kernel
theorem dX5_columnBlocks_38 : decode cX5_columnBlocks 38 = .ok (.invokevirtual 40, 3) := by decide +kernel
theorem dX5_columnBlocks_41 : decode cX5_columnBlocks 41 = .ok (.if_icmp .ge 28, 3) := by decide +kernel
theorem dX5_columnBlocks_44 : decode cX5_columnBlocks 44 = .ok (.iload 5, 2) := by decide +kernel
theorem dX5_columnBlocks_46 : decode cX5_columnBlocks 46 = .ok (.invokestatic 51, 3) := by decide +kernel
theorem dX5_columnBlocks_49 : decode cX5_columnBlocks 49 = .ok (.aload_n 0, 1) := by decide +kernel
theorem dX5_columnBlocks_50 : decode cX5_columnBlocks 50 = .ok (.iload_n 1, 1) := by decide +kernel
theorem dX5_columnBlocks_51 : decode cX5_columnBlocks 51 = .ok (.iconst 2, 1) := by decide +kernel
theorem dX5_columnBlocks_52 : decode cX5_columnBlocks 52 = .ok (.invokevirtual 55, 3) := by decide +kernel
theorem dX5_columnBlocks_55 : decode cX5_columnBlocks 55 = .ok (.aload_n 0, 1) := by decide +kernel
theorem dX5_columnBlocks_56 : decode cX5_columnBlocks 56 = .ok (.iload_n 2, 1) := by decide +kernel
theorem dX5_columnBlocks_57 : decode cX5_columnBlocks 57 = .ok (.iconst 0, 1) := by decide +kernel
theorem dX5_columnBlocks_58 : decode cX5_columnBlocks 58 = .ok (.invokevirtual 40, 3) := by decide +kernel
theorem dX5_columnBlocks_61 : decode cX5_columnBlocks 61 = .ok (.imul, 1) := by decide +kernel
theorem dX5_columnBlocks_62 : decode cX5_columnBlocks 62 = .ok (.if_icmp .gt 7, 3) := by decide +kernel
theorem dX5_columnBlocks_65 : decode cX5_columnBlocks 65 = .ok (.iconst 1, 1) := by decide +kernel
theorem dX5_columnBlocks_66 : decode cX5_columnBlocks 66 = .ok (.goto 4, 3) := by decide +kernel
theorem dX5_columnBlocks_69 : decode cX5_columnBlocks 69 = .ok (.iconst 0, 1) := by decide +kernel
theorem dX5_columnBlocks_70 : decode cX5_columnBlocks 70 = .ok (.ireturn, 1) := by decide +kernel
set_option maxRecDepth 20000 in
theorem ggX5_peopleInWay_X5_of : GoodIn wsX5_peopleInWay wsX5_of := goodIn_r _ [5, 6, 26, 27, 28, 29, 30, 31, 32, 33, 34, 35, 36, 37] (by decide +kernel) (by decide +kernel)
set_option maxRecDepth 20000 in
theorem gX5_peopleInWay_X5_of : GoodIn wsX5_peopleInWay (wsV RX5 40 RX5 yX5_of wsX5_of) := goodIn_app (goodIn_of _ (by decide +kernel)) ggX5_peopleInWay_X5_of
set_option maxRecDepth 20000 in
theorem ggX5_peopleInWay_X5_isTaken : GoodIn wsX5_peopleInWay wsX5_isTaken := goodIn_r _ [10, 1, 2, 3, 4, 5, 6, 26, 27, 28, 29, 30, 31, 32, 33, 34, 35, 36, 37] (by decide +kernel) (by decide +kernel)
set_option maxRecDepth 20000 in
theorem gX5_peopleInWay_X5_isTaken : GoodIn wsX5_peopleInWay (wsV RX5 58 RX5 yX5_isTaken wsX5_isTaken) := goodIn_app (goodIn_of _ (by decide +kernel)) ggX5_peopleInWay_X5_isTaken
set_option maxRecDepth 20000 in
theorem ggX5_peopleInWay_X5_blocks : GoodIn wsX5_peopleInWay wsX5_blocks := goodIn_r _ [14, 15, 16, 17, 4, 18, 6, 1, 2, 3, 5, 19, 20, 21, 22, 23, 24, 25, 26, 27, 28, 29, 30, 31, 32, 33, 34, 35, 36, 37] (by decide +kernel) (by decide +kernel)
set_option maxRecDepth 20000 in
theorem gX5_peopleInWay_X5_blocks : GoodIn wsX5_peopleInWay (wsV RX5 61 RX5 yX5_blocks wsX5_blocks) := goodIn_app (goodIn_of _ (by decide +kernel)) ggX5_peopleInWay_X5_blocks
theorem dX5_peopleInWay_0 : decode cX5_peopleInWay 0 = .ok (.iconst 0, 1) := by decide +kernel
theorem dX5_peopleInWay_1 : decode cX5_peopleInWay 1 = .ok (.istore_n 3, 1) := by decide +kernel
theorem dX5_peopleInWay_2 : decode cX5_peopleInWay 2 = .ok (.iconst 0, 1) := by decide +kernel
theorem dX5_peopleInWay_3 : decode cX5_peopleInWay 3 = .ok (.istore 4, 2) := by decide +kernel
theorem dX5_peopleInWay_5 : decode cX5_peopleInWay 5 = .ok (.iload 4, 2) := by decide +kernel
theorem dX5_peopleInWay_7 : decode cX5_peopleInWay 7 = .ok (.iload_n 1, 1) := by decide +kernel
theorem dX5_peopleInWay_8 : decode cX5_peopleInWay 8 = .ok (.if_icmp .ge 62, 3) := by decide +kernel
theorem dX5_peopleInWay_11 : decode cX5_peopleInWay 11 = .ok (.iconst 0, 1) := by decide +kernel
theorem dX5_peopleInWay_12 : decode cX5_peopleInWay 12 = .ok (.istore 5, 2) := by decide +kernel
theorem dX5_peopleInWay_14 : decode cX5_peopleInWay 14 = .ok (.iload 5, 2) := by decide +kernel
theorem dX5_peopleInWay_16 : decode cX5_peopleInWay 16 = .ok (.aload_n 0, 1) := by decide +kernel
theorem dX5_peopleInWay_17 : decode cX5_peopleInWay 17 = .ok (.iload 4, 2) := by decide +kernel
theorem dX5_peopleInWay_19 : decode cX5_peopleInWay 19 = .ok (.iconst 2, 1) := by decide +kernel
theorem dX5_peopleInWay_20 : decode cX5_peopleInWay 20 = .ok (.invokevirtual 40, 3) := by decide +kernel
theorem dX5_peopleInWay_23 : decode cX5_peopleInWay 23 = .ok (.if_icmp .ge 41, 3) := by decide +kernel
theorem dX5_peopleInWay_26 : decode cX5_peopleInWay 26 = .ok (.iload_n 3, 1) := by decide +kernel
theorem dX5_peopleInWay_27 : decode cX5_peopleInWay 27 = .ok (.aload_n 0, 1) := by decide +kernel
theorem dX5_peopleInWay_28 : decode cX5_peopleInWay 28 = .ok (.iload 4, 2) := by decide +kernel
theorem dX5_peopleInWay_30 : decode cX5_peopleInWay 30 = .ok (.iload 5, 2) := by decide +kernel
theorem dX5_peopleInWay_32 : decode cX5_peopleInWay 32 = .ok (.invokevirtual 58, 3) := by decide +kernel
theorem dX5_peopleInWay_35 : decode cX5_peopleInWay 35 = .ok (.ifCond .eq 20, 3) := by decide +kernel
theorem dX5_peopleInWay_38 : decode cX5_peopleInWay 38 = .ok (.aload_n 0, 1) := by decide +kernel
theorem dX5_peopleInWay_39 : decode cX5_peopleInWay 39 = .ok (.iload 4, 2) := by decide +kernel
theorem dX5_peopleInWay_41 : decode cX5_peopleInWay 41 = .ok (.iload 5, 2) := by decide +kernel
theorem dX5_peopleInWay_43 : decode cX5_peopleInWay 43 = .ok (.iload_n 1, 1) := by decide +kernel
theorem dX5_peopleInWay_44 : decode cX5_peopleInWay 44 = .ok (.iload_n 2, 1) := by decide +kernel
theorem dX5_peopleInWay_45 : decode cX5_peopleInWay 45 = .ok (.invokevirtual 61, 3) := by decide +kernel
theorem dX5_peopleInWay_48 : decode cX5_peopleInWay 48 = .ok (.ifCond .eq 7, 3) := by decide +kernel
theorem dX5_peopleInWay_51 : decode cX5_peopleInWay 51 = .ok (.iconst 1, 1) := by decide +kernel
theorem dX5_peopleInWay_52 : decode cX5_peopleInWay 52 = .ok (.goto 4, 3) := by decide +kernel
theorem dX5_peopleInWay_55 : decode cX5_peopleInWay 55 = .ok (.iconst 0, 1) := by decide +kernel
theorem dX5_peopleInWay_56 : decode cX5_peopleInWay 56 = .ok (.iadd, 1) := by decide +kernel
theorem dX5_peopleInWay_57 : decode cX5_peopleInWay 57 = .ok (.istore_n 3, 1) := by decide +kernel
theorem dX5_peopleInWay_58 : decode cX5_peopleInWay 58 = .ok (.iinc 5 1, 3) := by decide +kernel
theorem dX5_peopleInWay_61 : decode cX5_peopleInWay 61 = .ok (.goto (-47), 3) := by decide +kernel
theorem dX5_peopleInWay_64 : decode cX5_peopleInWay 64 = .ok (.iinc 4 1, 3) := by decide +kernel
theorem dX5_peopleInWay_67 : decode cX5_peopleInWay 67 = .ok (.goto (-62), 3) := by decide +kernel
theorem dX5_peopleInWay_70 : decode cX5_peopleInWay 70 = .ok (.iload_n 3, 1) := by decide +kernel
theorem dX5_peopleInWay_71 : decode cX5_peopleInWay 71 = .ok (.ireturn, 1) := by decide +kernel
set_option maxRecDepth 20000 in
theorem ggX5_columnsInWay_X5_columnBlocks : GoodIn wsX5_columnsInWay wsX5_columnBlocks := goodIn_r _ [6, 7, 8, 9, 5, 10, 1, 11, 12, 13, 14, 15, 16, 17, 18, 19, 20, 21, 22, 23, 24, 25, 26, 27, 28, 29, 30, 31, 32, 33] (by decide +kernel) (by decide +kernel)
set_option maxRecDepth 20000 in
theorem gX5_columnsInWay_X5_columnBlocks : GoodIn wsX5_columnsInWay (wsV RX5 65 RX5 yX5_columnBlocks wsX5_columnBlocks) := goodIn_app (goodIn_of _ (by decide +kernel)) ggX5_columnsInWay_X5_columnBlocks
theorem dX5_columnsInWay_0 : decode cX5_columnsInWay 0 = .ok (.iconst 0, 1) := by decide +kernel
theorem dX5_columnsInWay_1 : decode cX5_columnsInWay 1 = .ok (.istore 4, 2) := by decide +kernel
theorem dX5_columnsInWay_3 : decode cX5_columnsInWay 3 = .ok (.iconst 0, 1) := by decide +kernel
theorem dX5_columnsInWay_4 : decode cX5_columnsInWay 4 = .ok (.istore 5, 2) := by decide +kernel
theorem dX5_columnsInWay_6 : decode cX5_columnsInWay 6 = .ok (.iload 5, 2) := by decide +kernel
theorem dX5_columnsInWay_8 : decode cX5_columnsInWay 8 = .ok (.aload_n 0, 1) := by decide +kernel
theorem dX5_columnsInWay_9 : decode cX5_columnsInWay 9 = .ok (.getfield 7, 3) := by decide +kernel
theorem dX5_columnsInWay_12 : decode cX5_columnsInWay 12 = .ok (.iconst 4, 1) := by decide +kernel
theorem dX5_columnsInWay_13 : decode cX5_columnsInWay 13 = .ok (.iaload, 1) := by decide +kernel
theorem dX5_columnsInWay_14 : decode cX5_columnsInWay 14 = .ok (.if_icmp .ge 36, 3) := by decide +kernel
theorem dX5_columnsInWay_17 : decode cX5_columnsInWay 17 = .ok (.iload 4, 2) := by decide +kernel
theorem dX5_columnsInWay_19 : decode cX5_columnsInWay 19 = .ok (.iload 5, 2) := by decide +kernel
theorem dX5_columnsInWay_21 : decode cX5_columnsInWay 21 = .ok (.iload_n 3, 1) := by decide +kernel
theorem dX5_columnsInWay_22 : decode cX5_columnsInWay 22 = .ok (.if_icmp .eq 18, 3) := by decide +kernel
theorem dX5_columnsInWay_25 : decode cX5_columnsInWay 25 = .ok (.aload_n 0, 1) := by decide +kernel
theorem dX5_columnsInWay_26 : decode cX5_columnsInWay 26 = .ok (.iload 5, 2) := by decide +kernel
theorem dX5_columnsInWay_28 : decode cX5_columnsInWay 28 = .ok (.iload_n 1, 1) := by decide +kernel
theorem dX5_columnsInWay_29 : decode cX5_columnsInWay 29 = .ok (.iload_n 2, 1) := by decide +kernel
theorem dX5_columnsInWay_30 : decode cX5_columnsInWay 30 = .ok (.invokevirtual 65, 3) := by decide +kernel
theorem dX5_columnsInWay_33 : decode cX5_columnsInWay 33 = .ok (.ifCond .eq 7, 3) := by decide +kernel
theorem dX5_columnsInWay_36 : decode cX5_columnsInWay 36 = .ok (.iconst 1, 1) := by decide +kernel
theorem dX5_columnsInWay_37 : decode cX5_columnsInWay 37 = .ok (.goto 4, 3) := by decide +kernel
theorem dX5_columnsInWay_40 : decode cX5_columnsInWay 40 = .ok (.iconst 0, 1) := by decide +kernel
theorem dX5_columnsInWay_41 : decode cX5_columnsInWay 41 = .ok (.iadd, 1) := by decide +kernel
theorem dX5_columnsInWay_42 : decode cX5_columnsInWay 42 = .ok (.istore 4, 2) := by decide +kernel
theorem dX5_columnsInWay_44 : decode cX5_columnsInWay 44 = .ok (.iinc 5 1, 3) := by decide +kernel
theorem dX5_columnsInWay_47 : decode cX5_columnsInWay 47 = .ok (.goto (-41), 3) := by decide +kernel
theorem dX5_columnsInWay_50 : decode cX5_columnsInWay 50 = .ok (.iload 4, 2) := by decide +kernel
theorem dX5_columnsInWay_52 : decode cX5_columnsInWay 52 = .ok (.ireturn, 1) := by decide +kernel
set_option maxRecDepth 20000 in
theorem ggX5_inWay_X5_peopleInWay : GoodIn wsX5_inWay wsX5_peopleInWay := goodIn_r _ [5, 6, 7, 8, 4, 9, 10, 11, 12, 13, 14, 15, 16, 17, 18, 19, 20, 21, 22, 23, 24, 25, 26, 27, 28, 29, 42, 43, 44, 45, 46, 47, 48, 49, 50, 51, 52, 53] (by decide +kernel) (by decide +kernel)
set_option maxRecDepth 20000 in
theorem gX5_inWay_X5_peopleInWay : GoodIn wsX5_inWay (wsV RX5 68 RX5 yX5_peopleInWay wsX5_peopleInWay) := goodIn_app (goodIn_of _ (by decide +kernel)) ggX5_inWay_X5_peopleInWay
set_option maxRecDepth 20000 in
theorem ggX5_inWay_X5_columnsInWay : GoodIn wsX5_inWay wsX5_columnsInWay := goodIn_r _ [33, 10, 34, 35, 36, 4, 37, 38, 39, 40, 41, 6, 7, 8, 9, 23, 24, 25, 26, 27, 28, 29, 42, 43, 44, 45, 46, 47, 48, 49, 50, 51, 52, 53] (by decide +kernel) (by decide +kernel)
set_option maxRecDepth 20000 in
theorem gX5_inWay_X5_columnsInWay : GoodIn wsX5_inWay (wsV RX5 71 RX5 yX5_columnsInWay wsX5_columnsInWay) := goodIn_app (goodIn_of _ (by decide +kernel)) ggX5_inWay_X5_columnsInWay
theorem dX5_inWay_0 : decode cX5_inWay 0 = .ok (.aload_n 0, 1) := by decide +kernel
theorem dX5_inWay_1 : decode cX5_inWay 1 = .ok (.iload_n 1, 1) := by decide +kernel
theorem dX5_inWay_2 : decode cX5_inWay 2 = .ok (.iload_n 2, 1) := by decide +kernel
theorem dX5_inWay_3 : decode cX5_inWay 3 = .ok (.invokevirtual 68, 3) := by decide +kernel
theorem dX5_inWay_6 : decode cX5_inWay 6 = .ok (.aload_n 0, 1) := by decide +kernel
theorem dX5_inWay_7 : decode cX5_inWay 7 = .ok (.iload_n 1, 1) := by decide +kernel
theorem dX5_inWay_8 : decode cX5_inWay 8 = .ok (.iload_n 2, 1) := by decide +kernel
theorem dX5_inWay_9 : decode cX5_inWay 9 = .ok (.iconst (-1), 1) := by decide +kernel
theorem dX5_inWay_10 : decode cX5_inWay 10 = .ok (.invokevirtual 71, 3) := by decide +kernel
theorem dX5_inWay_13 : decode cX5_inWay 13 = .ok (.iadd, 1) := by decide +kernel
theorem dX5_inWay_14 : decode cX5_inWay 14 = .ok (.ireturn, 1) := by decide +kernel
set_option maxRecDepth 20000 in
theorem ggX5_sees_X5_inWay : GoodIn wsX5_sees wsX5_inWay := goodIn_r _ [5, 6, 7, 8, 4, 9, 10, 11, 12, 13, 14, 15, 16, 17, 18, 19, 20, 21, 22, 23, 24, 25, 26, 27, 28, 29, 30, 31, 32, 33, 34, 35, 36, 37, 38, 39, 40, 41, 42, 43, 44, 45, 46, 47, 48, 49, 50, 51, 52, 53, 54, 55, 56, 57] (by decide +kernel) (by decide +kernel)
set_option maxRecDepth 20000 in
theorem gX5_sees_X5_inWay : GoodIn wsX5_sees (wsV RX5 75 RX5 yX5_inWay wsX5_inWay) := goodIn_app (goodIn_of _ (by decide +kernel)) ggX5_sees_X5_inWay
theorem dX5_sees_0 : decode cX5_sees 0 = .ok (.aload_n 0, 1) := by decide +kernel
theorem dX5_sees_1 : decode cX5_sees 1 = .ok (.iload_n 1, 1) := by decide +kernel
theorem dX5_sees_2 : decode cX5_sees 2 = .ok (.iload_n 2, 1) := by decide +kernel
theorem dX5_sees_3 : decode cX5_sees 3 = .ok (.invokevirtual 75, 3) := by decide +kernel
theorem dX5_sees_6 : decode cX5_sees 6 = .ok (.ifCond .ne 7, 3) := by decide +kernel
theorem dX5_sees_9 : decode cX5_sees 9 = .ok (.iconst 1, 1) := by decide +kernel
theorem dX5_sees_10 : decode cX5_sees 10 = .ok (.goto 4, 3) := by decide +kernel
theorem dX5_sees_13 : decode cX5_sees 13 = .ok (.iconst 0, 1) := by decide +kernel
theorem dX5_sees_14 : decode cX5_sees 14 = .ok (.ireturn, 1) := by decide +kernel
set_option maxRecDepth 20000 in
theorem ggX5_isFar_X5_within : GoodIn wsX5_isFar wsX5_within := goodIn_r _ [4] (by decide +kernel) (by decide +kernel)
set_option maxRecDepth 20000 in
theorem gX5_isFar_X5_within : GoodIn wsX5_isFar (va_wsS RX5 32 yX5_within wsX5_within) := goodIn_app (goodIn_of _ (by decide +kernel)) ggX5_isFar_X5_within
theorem dX5_isFar_0 : decode cX5_isFar 0 = .ok (.iload_n 0, 1) := by decide +kernel
theorem dX5_isFar_1 : decode cX5_isFar 1 = .ok (.iconst 1, 1) := by decide +kernel
theorem dX5_isFar_2 : decode cX5_isFar 2 = .ok (.sipush 999, 3) := by decide +kernel
theorem dX5_isFar_5 : decode cX5_isFar 5 = .ok (.invokestatic 32, 3) := by decide +kernel
theorem dX5_isFar_8 : decode cX5_isFar 8 = .ok (.ireturn, 1) := by decide +kernel
set_option maxRecDepth 20000 in
theorem ggX5_isHeight_X5_within : GoodIn wsX5_isHeight wsX5_within := goodIn_r _ [4] (by decide +kernel) (by decide +kernel)
set_option maxRecDepth 20000 in
theorem gX5_isHeight_X5_within : GoodIn wsX5_isHeight (va_wsS RX5 32 yX5_within wsX5_within) := goodIn_app (goodIn_of _ (by decide +kernel)) ggX5_isHeight_X5_within
theorem dX5_isHeight_0 : decode cX5_isHeight 0 = .ok (.iload_n 0, 1) := by decide +kernel
theorem dX5_isHeight_1 : decode cX5_isHeight 1 = .ok (.iconst 0, 1) := by decide +kernel
theorem dX5_isHeight_2 : decode cX5_isHeight 2 = .ok (.sipush 999, 3) := by decide +kernel
theorem dX5_isHeight_5 : decode cX5_isHeight 5 = .ok (.invokestatic 32, 3) := by decide +kernel
theorem dX5_isHeight_8 : decode cX5_isHeight 8 = .ok (.ireturn, 1) := by decide +kernel
set_option maxRecDepth 20000 in
theorem ggX5_canAddRow_X5_of : GoodIn wsX5_canAddRow wsX5_of := goodIn_r _ [6, 1, 7, 8, 9, 10, 11, 12, 13, 14, 15, 16, 17, 18] (by decide +kernel) (by decide +kernel)
set_option maxRecDepth 20000 in
theorem gX5_canAddRow_X5_of : GoodIn wsX5_canAddRow (wsV RX5 40 RX5 yX5_of wsX5_of) := goodIn_app (goodIn_of _ (by decide +kernel)) ggX5_canAddRow_X5_of
theorem dX5_canAddRow_0 : decode cX5_canAddRow 0 = .ok (.aload_n 0, 1) := by decide +kernel
theorem dX5_canAddRow_1 : decode cX5_canAddRow 1 = .ok (.getfield 7, 3) := by decide +kernel
theorem dX5_canAddRow_4 : decode cX5_canAddRow 4 = .ok (.iconst 3, 1) := by decide +kernel
theorem dX5_canAddRow_5 : decode cX5_canAddRow 5 = .ok (.iaload, 1) := by decide +kernel
theorem dX5_canAddRow_6 : decode cX5_canAddRow 6 = .ok (.bipush 10, 2) := by decide +kernel
theorem dX5_canAddRow_8 : decode cX5_canAddRow 8 = .ok (.if_icmp .ge 7, 3) := by decide +kernel
theorem dX5_canAddRow_11 : decode cX5_canAddRow 11 = .ok (.iconst 1, 1) := by decide +kernel
theorem dX5_canAddRow_12 : decode cX5_canAddRow 12 = .ok (.goto 4, 3) := by decide +kernel
theorem dX5_canAddRow_15 : decode cX5_canAddRow 15 = .ok (.iconst 0, 1) := by decide +kernel
theorem dX5_canAddRow_16 : decode cX5_canAddRow 16 = .ok (.istore_n 2, 1) := by decide +kernel
theorem dX5_canAddRow_17 : decode cX5_canAddRow 17 = .ok (.iconst 0, 1) := by decide +kernel
theorem dX5_canAddRow_18 : decode cX5_canAddRow 18 = .ok (.istore_n 3, 1) := by decide +kernel
theorem dX5_canAddRow_19 : decode cX5_canAddRow 19 = .ok (.iload_n 3, 1) := by decide +kernel
theorem dX5_canAddRow_20 : decode cX5_canAddRow 20 = .ok (.aload_n 0, 1) := by decide +kernel
theorem dX5_canAddRow_21 : decode cX5_canAddRow 21 = .ok (.getfield 7, 3) := by decide +kernel
theorem dX5_canAddRow_24 : decode cX5_canAddRow 24 = .ok (.iconst 3, 1) := by decide +kernel
theorem dX5_canAddRow_25 : decode cX5_canAddRow 25 = .ok (.iaload, 1) := by decide +kernel
theorem dX5_canAddRow_26 : decode cX5_canAddRow 26 = .ok (.if_icmp .ge 29, 3) := by decide +kernel
theorem dX5_canAddRow_29 : decode cX5_canAddRow 29 = .ok (.iload_n 2, 1) := by decide +kernel
theorem dX5_canAddRow_30 : decode cX5_canAddRow 30 = .ok (.ifCond .eq 17, 3) := by decide +kernel
theorem dX5_canAddRow_33 : decode cX5_canAddRow 33 = .ok (.aload_n 0, 1) := by decide +kernel
theorem dX5_canAddRow_34 : decode cX5_canAddRow 34 = .ok (.iload_n 3, 1) := by decide +kernel
theorem dX5_canAddRow_35 : decode cX5_canAddRow 35 = .ok (.iconst 0, 1) := by decide +kernel
theorem dX5_canAddRow_36 : decode cX5_canAddRow 36 = .ok (.invokevirtual 40, 3) := by decide +kernel
theorem dX5_canAddRow_39 : decode cX5_canAddRow 39 = .ok (.iload_n 1, 1) := by decide +kernel
theorem dX5_canAddRow_40 : decode cX5_canAddRow 40 = .ok (.if_icmp .eq 7, 3) := by decide +kernel
theorem dX5_canAddRow_43 : decode cX5_canAddRow 43 = .ok (.iconst 1, 1) := by decide +kernel
theorem dX5_canAddRow_44 : decode cX5_canAddRow 44 = .ok (.goto 4, 3) := by decide +kernel
theorem dX5_canAddRow_47 : decode cX5_canAddRow 47 = .ok (.iconst 0, 1) := by decide +kernel
theorem dX5_canAddRow_48 : decode cX5_canAddRow 48 = .ok (.istore_n 2, 1) := by decide +kernel
theorem dX5_canAddRow_49 : decode cX5_canAddRow 49 = .ok (.iinc 3 1, 3) := by decide +kernel
theorem dX5_canAddRow_52 : decode cX5_canAddRow 52 = .ok (.goto (-33), 3) := by decide +kernel
theorem dX5_canAddRow_55 : decode cX5_canAddRow 55 = .ok (.iload_n 2, 1) := by decide +kernel
theorem dX5_canAddRow_56 : decode cX5_canAddRow 56 = .ok (.ireturn, 1) := by decide +kernel
set_option maxRecDepth 20000 in
theorem ggX5_addsRow_X5_of : GoodIn wsX5_addsRow wsX5_of := goodIn_r _ [6, 1, 11, 12, 13, 14, 15, 16, 17, 18, 19, 20, 21, 22] (by decide +kernel) (by decide +kernel)
set_option maxRecDepth 20000 in
theorem gX5_addsRow_X5_of : GoodIn wsX5_addsRow (wsV RX5 40 RX5 yX5_of wsX5_of) := goodIn_app (goodIn_of _ (by decide +kernel)) ggX5_addsRow_X5_of
set_option maxRecDepth 20000 in
theorem ggX5_addsRow_X5_put : GoodIn wsX5_addsRow wsX5_put := goodIn_r _ [10, 1, 11, 12, 13, 14, 15, 16, 17, 18, 19, 20, 21, 22] (by decide +kernel) (by decide +kernel)
set_option maxRecDepth 20000 in
theorem gX5_addsRow_X5_put : GoodIn wsX5_addsRow (wsV RX5 78 RX5 yX5_put wsX5_put) := goodIn_app (goodIn_of _ (by decide +kernel)) ggX5_addsRow_X5_put
theorem dX5_addsRow_0 : decode cX5_addsRow 0 = .ok (.aload_n 0, 1) := by decide +kernel
theorem dX5_addsRow_1 : decode cX5_addsRow 1 = .ok (.getfield 7, 3) := by decide +kernel
theorem dX5_addsRow_4 : decode cX5_addsRow 4 = .ok (.iconst 3, 1) := by decide +kernel
theorem dX5_addsRow_5 : decode cX5_addsRow 5 = .ok (.iaload, 1) := by decide +kernel
theorem dX5_addsRow_6 : decode cX5_addsRow 6 = .ok (.istore 4, 2) := by decide +kernel
theorem dX5_addsRow_8 : decode cX5_addsRow 8 = .ok (.iload 4, 2) := by decide +kernel
theorem dX5_addsRow_10 : decode cX5_addsRow 10 = .ok (.ifCond .le 55, 3) := by decide +kernel
theorem dX5_addsRow_13 : decode cX5_addsRow 13 = .ok (.aload_n 0, 1) := by decide +kernel
theorem dX5_addsRow_14 : decode cX5_addsRow 14 = .ok (.iload 4, 2) := by decide +kernel
theorem dX5_addsRow_16 : decode cX5_addsRow 16 = .ok (.iconst 1, 1) := by decide +kernel
theorem dX5_addsRow_17 : decode cX5_addsRow 17 = .ok (.isub, 1) := by decide +kernel
theorem dX5_addsRow_18 : decode cX5_addsRow 18 = .ok (.iconst 0, 1) := by decide +kernel
theorem dX5_addsRow_19 : decode cX5_addsRow 19 = .ok (.invokevirtual 40, 3) := by decide +kernel
theorem dX5_addsRow_22 : decode cX5_addsRow 22 = .ok (.iload_n 1, 1) := by decide +kernel
theorem dX5_addsRow_23 : decode cX5_addsRow 23 = .ok (.if_icmp .le 42, 3) := by decide +kernel
theorem dX5_addsRow_26 : decode cX5_addsRow 26 = .ok (.iconst 0, 1) := by decide +kernel
theorem dX5_addsRow_27 : decode cX5_addsRow 27 = .ok (.istore 5, 2) := by decide +kernel
theorem dX5_addsRow_29 : decode cX5_addsRow 29 = .ok (.iload 5, 2) := by decide +kernel
theorem dX5_addsRow_31 : decode cX5_addsRow 31 = .ok (.iconst 4, 1) := by decide +kernel
theorem dX5_addsRow_32 : decode cX5_addsRow 32 = .ok (.if_icmp .ge 27, 3) := by decide +kernel
theorem dX5_addsRow_35 : decode cX5_addsRow 35 = .ok (.aload_n 0, 1) := by decide +kernel
theorem dX5_addsRow_36 : decode cX5_addsRow 36 = .ok (.iload 4, 2) := by decide +kernel
theorem dX5_addsRow_38 : decode cX5_addsRow 38 = .ok (.iload 5, 2) := by decide +kernel
theorem dX5_addsRow_40 : decode cX5_addsRow 40 = .ok (.aload_n 0, 1) := by decide +kernel
theorem dX5_addsRow_41 : decode cX5_addsRow 41 = .ok (.iload 4, 2) := by decide +kernel
theorem dX5_addsRow_43 : decode cX5_addsRow 43 = .ok (.iconst 1, 1) := by decide +kernel
theorem dX5_addsRow_44 : decode cX5_addsRow 44 = .ok (.isub, 1) := by decide +kernel
theorem dX5_addsRow_45 : decode cX5_addsRow 45 = .ok (.iload 5, 2) := by decide +kernel
theorem dX5_addsRow_47 : decode cX5_addsRow 47 = .ok (.invokevirtual 40, 3) := by decide +kernel
theorem dX5_addsRow_50 : decode cX5_addsRow 50 = .ok (.invokevirtual 78, 3) := by decide +kernel
theorem dX5_addsRow_53 : decode cX5_addsRow 53 = .ok (.iinc 5 1, 3) := by decide +kernel
theorem dX5_addsRow_56 : decode cX5_addsRow 56 = .ok (.goto (-27), 3) := by decide +kernel
theorem dX5_addsRow_59 : decode cX5_addsRow 59 = .ok (.iinc 4 (-1), 3) := by decide +kernel
theorem dX5_addsRow_62 : decode cX5_addsRow 62 = .ok (.goto (-54), 3) := by decide +kernel
theorem dX5_addsRow_65 : decode cX5_addsRow 65 = .ok (.aload_n 0, 1) := by decide +kernel
theorem dX5_addsRow_66 : decode cX5_addsRow 66 = .ok (.getfield 7, 3) := by decide +kernel
theorem dX5_addsRow_69 : decode cX5_addsRow 69 = .ok (.iconst 3, 1) := by decide +kernel
theorem dX5_addsRow_70 : decode cX5_addsRow 70 = .ok (.dup2, 1) := by decide +kernel
theorem dX5_addsRow_71 : decode cX5_addsRow 71 = .ok (.iaload, 1) := by decide +kernel
theorem dX5_addsRow_72 : decode cX5_addsRow 72 = .ok (.iconst 1, 1) := by decide +kernel
theorem dX5_addsRow_73 : decode cX5_addsRow 73 = .ok (.iadd, 1) := by decide +kernel
theorem dX5_addsRow_74 : decode cX5_addsRow 74 = .ok (.iastore, 1) := by decide +kernel
theorem dX5_addsRow_75 : decode cX5_addsRow 75 = .ok (.aload_n 0, 1) := by decide +kernel
theorem dX5_addsRow_76 : decode cX5_addsRow 76 = .ok (.iload 4, 2) := by decide +kernel
theorem dX5_addsRow_78 : decode cX5_addsRow 78 = .ok (.iconst 0, 1) := by decide +kernel
theorem dX5_addsRow_79 : decode cX5_addsRow 79 = .ok (.iload_n 1, 1) := by decide +kernel
theorem dX5_addsRow_80 : decode cX5_addsRow 80 = .ok (.invokevirtual 78, 3) := by decide +kernel
theorem dX5_addsRow_83 : decode cX5_addsRow 83 = .ok (.aload_n 0, 1) := by decide +kernel
theorem dX5_addsRow_84 : decode cX5_addsRow 84 = .ok (.iload 4, 2) := by decide +kernel
theorem dX5_addsRow_86 : decode cX5_addsRow 86 = .ok (.iconst 1, 1) := by decide +kernel
theorem dX5_addsRow_87 : decode cX5_addsRow 87 = .ok (.iload_n 2, 1) := by decide +kernel
theorem dX5_addsRow_88 : decode cX5_addsRow 88 = .ok (.invokevirtual 78, 3) := by decide +kernel
theorem dX5_addsRow_91 : decode cX5_addsRow 91 = .ok (.aload_n 0, 1) := by decide +kernel
theorem dX5_addsRow_92 : decode cX5_addsRow 92 = .ok (.iload 4, 2) := by decide +kernel
theorem dX5_addsRow_94 : decode cX5_addsRow 94 = .ok (.iconst 2, 1) := by decide +kernel
theorem dX5_addsRow_95 : decode cX5_addsRow 95 = .ok (.iload_n 3, 1) := by decide +kernel
theorem dX5_addsRow_96 : decode cX5_addsRow 96 = .ok (.invokevirtual 78, 3) := by decide +kernel
theorem dX5_addsRow_99 : decode cX5_addsRow 99 = .ok (.aload_n 0, 1) := by decide +kernel
theorem dX5_addsRow_100 : decode cX5_addsRow 100 = .ok (.iload 4, 2) := by decide +kernel
theorem dX5_addsRow_102 : decode cX5_addsRow 102 = .ok (.iconst 3, 1) := by decide +kernel
theorem dX5_addsRow_103 : decode cX5_addsRow 103 = .ok (.iconst 0, 1) := by decide +kernel
theorem dX5_addsRow_104 : decode cX5_addsRow 104 = .ok (.invokevirtual 78, 3) := by decide +kernel
theorem dX5_addsRow_107 : decode cX5_addsRow 107 = .ok (.iload 4, 2) := by decide +kernel
theorem dX5_addsRow_109 : decode cX5_addsRow 109 = .ok (.ireturn, 1) := by decide +kernel
set_option maxRecDepth 20000 in
theorem ggX5_addRow_X5_isFar : GoodIn wsX5_addRow wsX5_isFar := goodIn_r _ [5, 6, 7, 4, 8] (by decide +kernel) (by decide +kernel)
set_option maxRecDepth 20000 in
theorem gX5_addRow_X5_isFar : GoodIn wsX5_addRow (va_wsS RX5 82 yX5_isFar wsX5_isFar) := goodIn_app (goodIn_of _ (by decide +kernel)) ggX5_addRow_X5_isFar
set_option maxRecDepth 20000 in
theorem ggX5_addRow_X5_isHeight : GoodIn wsX5_addRow wsX5_isHeight := goodIn_r _ [11, 6, 7, 4, 8] (by decide +kernel) (by decide +kernel)
set_option maxRecDepth 20000 in
theorem gX5_addRow_X5_isHeight : GoodIn wsX5_addRow (va_wsS RX5 85 yX5_isHeight wsX5_isHeight) := goodIn_app (goodIn_of _ (by decide +kernel)) ggX5_addRow_X5_isHeight
set_option maxRecDepth 20000 in
theorem ggX5_addRow_X5_within : GoodIn wsX5_addRow wsX5_within := goodIn_r _ [8] (by decide +kernel) (by decide +kernel)
set_option maxRecDepth 20000 in
theorem gX5_addRow_X5_within : GoodIn wsX5_addRow (va_wsS RX5 32 yX5_within wsX5_within) := goodIn_app (goodIn_of _ (by decide +kernel)) ggX5_addRow_X5_within
set_option maxRecDepth 20000 in
theorem ggX5_addRow_X5_canAddRow : GoodIn wsX5_addRow wsX5_canAddRow := goodIn_r _ [15, 16, 17, 18, 19, 4, 20, 35, 36, 37, 38, 39, 40, 41, 42, 43, 44, 45, 46] (by decide +kernel) (by decide +kernel)
set_option maxRecDepth 20000 in
theorem gX5_addRow_X5_canAddRow : GoodIn wsX5_addRow (wsV RX5 88 RX5 yX5_canAddRow wsX5_canAddRow) := goodIn_app (goodIn_of _ (by decide +kernel)) ggX5_addRow_X5_canAddRow
set_option maxRecDepth 20000 in
theorem ggX5_addRow_X5_save : GoodIn wsX5_addRow wsX5_save := goodIn_r _ [24, 25, 26, 16, 35, 36, 37, 38, 39, 40, 41, 42, 43, 44, 45, 46] (by decide +kernel) (by decide +kernel)
set_option maxRecDepth 20000 in
theorem gX5_addRow_X5_save : GoodIn wsX5_addRow (wsV RX5 91 RX5 yX5_save wsX5_save) := goodIn_app (goodIn_of _ (by decide +kernel)) ggX5_addRow_X5_save
set_option maxRecDepth 20000 in
theorem ggX5_addRow_X5_addsRow : GoodIn wsX5_addRow wsX5_addsRow := goodIn_r _ [30, 16, 17, 18, 19, 4, 20, 31, 32, 33, 34, 35, 36, 37, 38, 39, 40, 41, 42, 43, 44, 45, 46] (by decide +kernel) (by decide +kernel)
set_option maxRecDepth 20000 in
theorem gX5_addRow_X5_addsRow : GoodIn wsX5_addRow (wsV RX5 94 RX5 yX5_addsRow wsX5_addsRow) := goodIn_app (goodIn_of _ (by decide +kernel)) ggX5_addRow_X5_addsRow
theorem dX5_addRow_0 : decode cX5_addRow 0 = .ok (.iload_n 1, 1) := by decide +kernel
theorem dX5_addRow_1 : decode cX5_addRow 1 = .ok (.invokestatic 82, 3) := by decide +kernel
theorem dX5_addRow_4 : decode cX5_addRow 4 = .ok (.ifCond .eq 24, 3) := by decide +kernel
theorem dX5_addRow_7 : decode cX5_addRow 7 = .ok (.iload_n 2, 1) := by decide +kernel
theorem dX5_addRow_8 : decode cX5_addRow 8 = .ok (.invokestatic 85, 3) := by decide +kernel
theorem dX5_addRow_11 : decode cX5_addRow 11 = .ok (.ifCond .eq 17, 3) := by decide +kernel
theorem dX5_addRow_14 : decode cX5_addRow 14 = .ok (.iload_n 3, 1) := by decide +kernel
theorem dX5_addRow_15 : decode cX5_addRow 15 = .ok (.iconst 1, 1) := by decide +kernel
theorem dX5_addRow_16 : decode cX5_addRow 16 = .ok (.bipush 12, 2) := by decide +kernel
theorem dX5_addRow_18 : decode cX5_addRow 18 = .ok (.invokestatic 32, 3) := by decide +kernel
theorem dX5_addRow_21 : decode cX5_addRow 21 = .ok (.ifCond .eq 7, 3) := by decide +kernel
theorem dX5_addRow_24 : decode cX5_addRow 24 = .ok (.iconst 1, 1) := by decide +kernel
theorem dX5_addRow_25 : decode cX5_addRow 25 = .ok (.goto 4, 3) := by decide +kernel
theorem dX5_addRow_28 : decode cX5_addRow 28 = .ok (.iconst 0, 1) := by decide +kernel
theorem dX5_addRow_29 : decode cX5_addRow 29 = .ok (.istore 4, 2) := by decide +kernel
theorem dX5_addRow_31 : decode cX5_addRow 31 = .ok (.aload_n 0, 1) := by decide +kernel
theorem dX5_addRow_32 : decode cX5_addRow 32 = .ok (.iload 4, 2) := by decide +kernel
theorem dX5_addRow_34 : decode cX5_addRow 34 = .ok (.ifCond .ne 7, 3) := by decide +kernel
theorem dX5_addRow_37 : decode cX5_addRow 37 = .ok (.iconst 1, 1) := by decide +kernel
theorem dX5_addRow_38 : decode cX5_addRow 38 = .ok (.goto 16, 3) := by decide +kernel
theorem dX5_addRow_41 : decode cX5_addRow 41 = .ok (.aload_n 0, 1) := by decide +kernel
theorem dX5_addRow_42 : decode cX5_addRow 42 = .ok (.iload_n 1, 1) := by decide +kernel
theorem dX5_addRow_43 : decode cX5_addRow 43 = .ok (.invokevirtual 88, 3) := by decide +kernel
theorem dX5_addRow_46 : decode cX5_addRow 46 = .ok (.ifCond .eq 7, 3) := by decide +kernel
theorem dX5_addRow_49 : decode cX5_addRow 49 = .ok (.iconst 0, 1) := by decide +kernel
theorem dX5_addRow_50 : decode cX5_addRow 50 = .ok (.goto 4, 3) := by decide +kernel
theorem dX5_addRow_53 : decode cX5_addRow 53 = .ok (.iconst 2, 1) := by decide +kernel
theorem dX5_addRow_54 : decode cX5_addRow 54 = .ok (.putfield 25, 3) := by decide +kernel
theorem dX5_addRow_57 : decode cX5_addRow 57 = .ok (.aload_n 0, 1) := by decide +kernel
theorem dX5_addRow_58 : decode cX5_addRow 58 = .ok (.getfield 25, 3) := by decide +kernel
theorem dX5_addRow_61 : decode cX5_addRow 61 = .ok (.ifCond .le 5, 3) := by decide +kernel
theorem dX5_addRow_64 : decode cX5_addRow 64 = .ok (.iconst 0, 1) := by decide +kernel
theorem dX5_addRow_65 : decode cX5_addRow 65 = .ok (.ireturn, 1) := by decide +kernel
theorem dX5_addRow_66 : decode cX5_addRow 66 = .ok (.aload_n 0, 1) := by decide +kernel
theorem dX5_addRow_67 : decode cX5_addRow 67 = .ok (.invokevirtual 91, 3) := by decide +kernel
theorem dX5_addRow_70 : decode cX5_addRow 70 = .ok (.aload_n 0, 1) := by decide +kernel
theorem dX5_addRow_71 : decode cX5_addRow 71 = .ok (.iload_n 1, 1) := by decide +kernel
theorem dX5_addRow_72 : decode cX5_addRow 72 = .ok (.iload_n 2, 1) := by decide +kernel
theorem dX5_addRow_73 : decode cX5_addRow 73 = .ok (.iload_n 3, 1) := by decide +kernel
theorem dX5_addRow_74 : decode cX5_addRow 74 = .ok (.invokevirtual 94, 3) := by decide +kernel
theorem dX5_addRow_77 : decode cX5_addRow 77 = .ok (.ireturn, 1) := by decide +kernel
set_option maxRecDepth 20000 in
theorem ggX5_allSeats_X5_of : GoodIn wsX5_allSeats wsX5_of := goodIn_r _ [6, 1, 7, 8, 9, 10, 11, 12, 13, 14, 15, 16, 17, 18] (by decide +kernel) (by decide +kernel)
set_option maxRecDepth 20000 in
theorem gX5_allSeats_X5_of : GoodIn wsX5_allSeats (wsV RX5 40 RX5 yX5_of wsX5_of) := goodIn_app (goodIn_of _ (by decide +kernel)) ggX5_allSeats_X5_of
theorem dX5_allSeats_0 : decode cX5_allSeats 0 = .ok (.iconst 0, 1) := by decide +kernel
theorem dX5_allSeats_1 : decode cX5_allSeats 1 = .ok (.istore_n 1, 1) := by decide +kernel
theorem dX5_allSeats_2 : decode cX5_allSeats 2 = .ok (.iconst 0, 1) := by decide +kernel
theorem dX5_allSeats_3 : decode cX5_allSeats 3 = .ok (.istore_n 2, 1) := by decide +kernel
theorem dX5_allSeats_4 : decode cX5_allSeats 4 = .ok (.iload_n 2, 1) := by decide +kernel
theorem dX5_allSeats_5 : decode cX5_allSeats 5 = .ok (.aload_n 0, 1) := by decide +kernel
theorem dX5_allSeats_6 : decode cX5_allSeats 6 = .ok (.getfield 7, 3) := by decide +kernel
theorem dX5_allSeats_9 : decode cX5_allSeats 9 = .ok (.iconst 3, 1) := by decide +kernel
theorem dX5_allSeats_10 : decode cX5_allSeats 10 = .ok (.iaload, 1) := by decide +kernel
theorem dX5_allSeats_11 : decode cX5_allSeats 11 = .ok (.if_icmp .ge 18, 3) := by decide +kernel
theorem dX5_allSeats_14 : decode cX5_allSeats 14 = .ok (.iload_n 1, 1) := by decide +kernel
theorem dX5_allSeats_15 : decode cX5_allSeats 15 = .ok (.aload_n 0, 1) := by decide +kernel
theorem dX5_allSeats_16 : decode cX5_allSeats 16 = .ok (.iload_n 2, 1) := by decide +kernel
theorem dX5_allSeats_17 : decode cX5_allSeats 17 = .ok (.iconst 2, 1) := by decide +kernel
theorem dX5_allSeats_18 : decode cX5_allSeats 18 = .ok (.invokevirtual 40, 3) := by decide +kernel
theorem dX5_allSeats_21 : decode cX5_allSeats 21 = .ok (.iadd, 1) := by decide +kernel
theorem dX5_allSeats_22 : decode cX5_allSeats 22 = .ok (.istore_n 1, 1) := by decide +kernel
theorem dX5_allSeats_23 : decode cX5_allSeats 23 = .ok (.iinc 2 1, 3) := by decide +kernel
theorem dX5_allSeats_26 : decode cX5_allSeats 26 = .ok (.goto (-22), 3) := by decide +kernel
theorem dX5_allSeats_29 : decode cX5_allSeats 29 = .ok (.iload_n 1, 1) := by decide +kernel
theorem dX5_allSeats_30 : decode cX5_allSeats 30 = .ok (.ireturn, 1) := by decide +kernel
set_option maxRecDepth 20000 in
theorem ggX5_removeRow_X5_isRow : GoodIn wsX5_removeRow wsX5_isRow := goodIn_r _ [7, 2, 8, 9, 6, 10, 25, 26, 27, 28, 29, 30, 31, 32, 33, 34, 35, 36] (by decide +kernel) (by decide +kernel)
set_option maxRecDepth 20000 in
theorem gX5_removeRow_X5_isRow : GoodIn wsX5_removeRow (wsV RX5 36 RX5 yX5_isRow wsX5_isRow) := goodIn_app (goodIn_of _ (by decide +kernel)) ggX5_removeRow_X5_isRow
set_option maxRecDepth 20000 in
theorem ggX5_removeRow_X5_save : GoodIn wsX5_removeRow wsX5_save := goodIn_r _ [14, 15, 16, 2, 25, 26, 27, 28, 29, 30, 31, 32, 33, 34, 35, 36] (by decide +kernel) (by decide +kernel)
set_option maxRecDepth 20000 in
theorem gX5_removeRow_X5_save : GoodIn wsX5_removeRow (wsV RX5 91 RX5 yX5_save wsX5_save) := goodIn_app (goodIn_of _ (by decide +kernel)) ggX5_removeRow_X5_save
set_option maxRecDepth 20000 in
theorem ggX5_removeRow_X5_allSeats : GoodIn wsX5_removeRow wsX5_allSeats := goodIn_r _ [20, 2, 21, 22, 23, 6, 24, 25, 26, 27, 28, 29, 30, 31, 32, 33, 34, 35, 36] (by decide +kernel) (by decide +kernel)
set_option maxRecDepth 20000 in
theorem gX5_removeRow_X5_allSeats : GoodIn wsX5_removeRow (wsV RX5 97 RX5 yX5_allSeats wsX5_allSeats) := goodIn_app (goodIn_of _ (by decide +kernel)) ggX5_removeRow_X5_allSeats
theorem dX5_removeRow_0 : decode cX5_removeRow 0 = .ok (.aload_n 0, 1) := by decide +kernel
theorem dX5_removeRow_1 : decode cX5_removeRow 1 = .ok (.aload_n 0, 1) := by decide +kernel
theorem dX5_removeRow_2 : decode cX5_removeRow 2 = .ok (.iload_n 1, 1) := by decide +kernel
theorem dX5_removeRow_3 : decode cX5_removeRow 3 = .ok (.invokevirtual 36, 3) := by decide +kernel
theorem dX5_removeRow_6 : decode cX5_removeRow 6 = .ok (.ifCond .eq 7, 3) := by decide +kernel
theorem dX5_removeRow_9 : decode cX5_removeRow 9 = .ok (.iconst 0, 1) := by decide +kernel
theorem dX5_removeRow_10 : decode cX5_removeRow 10 = .ok (.goto 4, 3) := by decide +kernel
theorem dX5_removeRow_13 : decode cX5_removeRow 13 = .ok (.iconst 1, 1) := by decide +kernel
theorem dX5_removeRow_14 : decode cX5_removeRow 14 = .ok (.putfield 25, 3) := by decide +kernel
theorem dX5_removeRow_17 : decode cX5_removeRow 17 = .ok (.aload_n 0, 1) := by decide +kernel
theorem dX5_removeRow_18 : decode cX5_removeRow 18 = .ok (.getfield 25, 3) := by decide +kernel
theorem dX5_removeRow_21 : decode cX5_removeRow 21 = .ok (.ifCond .le 5, 3) := by decide +kernel
theorem dX5_removeRow_24 : decode cX5_removeRow 24 = .ok (.iconst 0, 1) := by decide +kernel
theorem dX5_removeRow_25 : decode cX5_removeRow 25 = .ok (.ireturn, 1) := by decide +kernel
theorem dX5_removeRow_26 : decode cX5_removeRow 26 = .ok (.aload_n 0, 1) := by decide +kernel
theorem dX5_removeRow_27 : decode cX5_removeRow 27 = .ok (.invokevirtual 91, 3) := by decide +kernel
theorem dX5_removeRow_30 : decode cX5_removeRow 30 = .ok (.aload_n 0, 1) := by decide +kernel
theorem dX5_removeRow_31 : decode cX5_removeRow 31 = .ok (.getfield 7, 3) := by decide +kernel
theorem dX5_removeRow_34 : decode cX5_removeRow 34 = .ok (.iconst 3, 1) := by decide +kernel
theorem dX5_removeRow_35 : decode cX5_removeRow 35 = .ok (.dup2, 1) := by decide +kernel
theorem dX5_removeRow_36 : decode cX5_removeRow 36 = .ok (.iaload, 1) := by decide +kernel
theorem dX5_removeRow_37 : decode cX5_removeRow 37 = .ok (.iconst 1, 1) := by decide +kernel
theorem dX5_removeRow_38 : decode cX5_removeRow 38 = .ok (.isub, 1) := by decide +kernel
theorem dX5_removeRow_39 : decode cX5_removeRow 39 = .ok (.iastore, 1) := by decide +kernel
theorem dX5_removeRow_40 : decode cX5_removeRow 40 = .ok (.iconst 5, 1) := by decide +kernel
theorem dX5_removeRow_41 : decode cX5_removeRow 41 = .ok (.iconst 4, 1) := by decide +kernel
theorem dX5_removeRow_42 : decode cX5_removeRow 42 = .ok (.iload_n 1, 1) := by decide +kernel
theorem dX5_removeRow_43 : decode cX5_removeRow 43 = .ok (.imul, 1) := by decide +kernel
theorem dX5_removeRow_44 : decode cX5_removeRow 44 = .ok (.iadd, 1) := by decide +kernel
theorem dX5_removeRow_45 : decode cX5_removeRow 45 = .ok (.istore_n 2, 1) := by decide +kernel
theorem dX5_removeRow_46 : decode cX5_removeRow 46 = .ok (.iload_n 2, 1) := by decide +kernel
theorem dX5_removeRow_47 : decode cX5_removeRow 47 = .ok (.iconst 5, 1) := by decide +kernel
theorem dX5_removeRow_48 : decode cX5_removeRow 48 = .ok (.iconst 4, 1) := by decide +kernel
theorem dX5_removeRow_49 : decode cX5_removeRow 49 = .ok (.aload_n 0, 1) := by decide +kernel
theorem dX5_removeRow_50 : decode cX5_removeRow 50 = .ok (.getfield 7, 3) := by decide +kernel
theorem dX5_removeRow_53 : decode cX5_removeRow 53 = .ok (.iconst 3, 1) := by decide +kernel
theorem dX5_removeRow_54 : decode cX5_removeRow 54 = .ok (.iaload, 1) := by decide +kernel
theorem dX5_removeRow_55 : decode cX5_removeRow 55 = .ok (.imul, 1) := by decide +kernel
theorem dX5_removeRow_56 : decode cX5_removeRow 56 = .ok (.iadd, 1) := by decide +kernel
theorem dX5_removeRow_57 : decode cX5_removeRow 57 = .ok (.if_icmp .ge 23, 3) := by decide +kernel
theorem dX5_removeRow_60 : decode cX5_removeRow 60 = .ok (.aload_n 0, 1) := by decide +kernel
theorem dX5_removeRow_61 : decode cX5_removeRow 61 = .ok (.getfield 7, 3) := by decide +kernel
theorem dX5_removeRow_64 : decode cX5_removeRow 64 = .ok (.iload_n 2, 1) := by decide +kernel
theorem dX5_removeRow_65 : decode cX5_removeRow 65 = .ok (.aload_n 0, 1) := by decide +kernel
theorem dX5_removeRow_66 : decode cX5_removeRow 66 = .ok (.getfield 7, 3) := by decide +kernel
theorem dX5_removeRow_69 : decode cX5_removeRow 69 = .ok (.iload_n 2, 1) := by decide +kernel
theorem dX5_removeRow_70 : decode cX5_removeRow 70 = .ok (.iconst 4, 1) := by decide +kernel
theorem dX5_removeRow_71 : decode cX5_removeRow 71 = .ok (.iadd, 1) := by decide +kernel
theorem dX5_removeRow_72 : decode cX5_removeRow 72 = .ok (.iaload, 1) := by decide +kernel
theorem dX5_removeRow_73 : decode cX5_removeRow 73 = .ok (.iastore, 1) := by decide +kernel
theorem dX5_removeRow_74 : decode cX5_removeRow 74 = .ok (.iinc 2 1, 3) := by decide +kernel
theorem dX5_removeRow_77 : decode cX5_removeRow 77 = .ok (.goto (-31), 3) := by decide +kernel
theorem dX5_removeRow_80 : decode cX5_removeRow 80 = .ok (.aload_n 0, 1) := by decide +kernel
theorem dX5_removeRow_81 : decode cX5_removeRow 81 = .ok (.invokevirtual 97, 3) := by decide +kernel
theorem dX5_removeRow_84 : decode cX5_removeRow 84 = .ok (.ireturn, 1) := by decide +kernel
set_option maxRecDepth 20000 in
theorem ggX5_lift_X5_isRow : GoodIn wsX5_lift wsX5_isRow := goodIn_r _ [6, 7, 8, 9, 5, 10, 28, 29, 30, 31, 32, 33, 34, 35, 36, 37, 38, 39] (by decide +kernel) (by decide +kernel)
set_option maxRecDepth 20000 in
theorem gX5_lift_X5_isRow : GoodIn wsX5_lift (wsV RX5 36 RX5 yX5_isRow wsX5_isRow) := goodIn_app (goodIn_of _ (by decide +kernel)) ggX5_lift_X5_isRow
set_option maxRecDepth 20000 in
theorem ggX5_lift_X5_isHeight : GoodIn wsX5_lift wsX5_isHeight := goodIn_r _ [13, 8, 9, 5, 10] (by decide +kernel) (by decide +kernel)
set_option maxRecDepth 20000 in
theorem gX5_lift_X5_isHeight : GoodIn wsX5_lift (va_wsS RX5 85 yX5_isHeight wsX5_isHeight) := goodIn_app (goodIn_of _ (by decide +kernel)) ggX5_lift_X5_isHeight
set_option maxRecDepth 20000 in
theorem ggX5_lift_X5_save : GoodIn wsX5_lift wsX5_save := goodIn_r _ [17, 18, 19, 7, 28, 29, 30, 31, 32, 33, 34, 35, 36, 37, 38, 39] (by decide +kernel) (by decide +kernel)
set_option maxRecDepth 20000 in
theorem gX5_lift_X5_save : GoodIn wsX5_lift (wsV RX5 91 RX5 yX5_save wsX5_save) := goodIn_app (goodIn_of _ (by decide +kernel)) ggX5_lift_X5_save
set_option maxRecDepth 20000 in
theorem ggX5_lift_X5_of : GoodIn wsX5_lift wsX5_of := goodIn_r _ [23, 7, 28, 29, 30, 31, 32, 33, 34, 35, 36, 37, 38, 39] (by decide +kernel) (by decide +kernel)
set_option maxRecDepth 20000 in
theorem gX5_lift_X5_of : GoodIn wsX5_lift (wsV RX5 40 RX5 yX5_of wsX5_of) := goodIn_app (goodIn_of _ (by decide +kernel)) ggX5_lift_X5_of
set_option maxRecDepth 20000 in
theorem ggX5_lift_X5_put : GoodIn wsX5_lift wsX5_put := goodIn_r _ [27, 7, 28, 29, 30, 31, 32, 33, 34, 35, 36, 37, 38, 39] (by decide +kernel) (by decide +kernel)
set_option maxRecDepth 20000 in
theorem gX5_lift_X5_put : GoodIn wsX5_lift (wsV RX5 78 RX5 yX5_put wsX5_put) := goodIn_app (goodIn_of _ (by decide +kernel)) ggX5_lift_X5_put
theorem dX5_lift_0 : decode cX5_lift 0 = .ok (.aload_n 0, 1) := by decide +kernel
theorem dX5_lift_1 : decode cX5_lift 1 = .ok (.aload_n 0, 1) := by decide +kernel
theorem dX5_lift_2 : decode cX5_lift 2 = .ok (.iload_n 1, 1) := by decide +kernel
theorem dX5_lift_3 : decode cX5_lift 3 = .ok (.invokevirtual 36, 3) := by decide +kernel
theorem dX5_lift_6 : decode cX5_lift 6 = .ok (.ifCond .ne 7, 3) := by decide +kernel
theorem dX5_lift_9 : decode cX5_lift 9 = .ok (.iconst 1, 1) := by decide +kernel
theorem dX5_lift_10 : decode cX5_lift 10 = .ok (.goto 15, 3) := by decide +kernel
theorem dX5_lift_13 : decode cX5_lift 13 = .ok (.iload_n 2, 1) := by decide +kernel
theorem dX5_lift_14 : decode cX5_lift 14 = .ok (.invokestatic 85, 3) := by decide +kernel
theorem dX5_lift_17 : decode cX5_lift 17 = .ok (.ifCond .eq 7, 3) := by decide +kernel
theorem dX5_lift_20 : decode cX5_lift 20 = .ok (.iconst 0, 1) := by decide +kernel
theorem dX5_lift_21 : decode cX5_lift 21 = .ok (.goto 4, 3) := by decide +kernel
theorem dX5_lift_24 : decode cX5_lift 24 = .ok (.iconst 2, 1) := by decide +kernel
theorem dX5_lift_25 : decode cX5_lift 25 = .ok (.putfield 25, 3) := by decide +kernel
theorem dX5_lift_28 : decode cX5_lift 28 = .ok (.aload_n 0, 1) := by decide +kernel
theorem dX5_lift_29 : decode cX5_lift 29 = .ok (.getfield 25, 3) := by decide +kernel
theorem dX5_lift_32 : decode cX5_lift 32 = .ok (.ifCond .le 5, 3) := by decide +kernel
theorem dX5_lift_35 : decode cX5_lift 35 = .ok (.iconst 0, 1) := by decide +kernel
theorem dX5_lift_36 : decode cX5_lift 36 = .ok (.ireturn, 1) := by decide +kernel
theorem dX5_lift_37 : decode cX5_lift 37 = .ok (.aload_n 0, 1) := by decide +kernel
theorem dX5_lift_38 : decode cX5_lift 38 = .ok (.invokevirtual 91, 3) := by decide +kernel
theorem dX5_lift_41 : decode cX5_lift 41 = .ok (.aload_n 0, 1) := by decide +kernel
theorem dX5_lift_42 : decode cX5_lift 42 = .ok (.iload_n 1, 1) := by decide +kernel
theorem dX5_lift_43 : decode cX5_lift 43 = .ok (.iconst 1, 1) := by decide +kernel
theorem dX5_lift_44 : decode cX5_lift 44 = .ok (.invokevirtual 40, 3) := by decide +kernel
theorem dX5_lift_47 : decode cX5_lift 47 = .ok (.istore_n 3, 1) := by decide +kernel
theorem dX5_lift_48 : decode cX5_lift 48 = .ok (.aload_n 0, 1) := by decide +kernel
theorem dX5_lift_49 : decode cX5_lift 49 = .ok (.iload_n 1, 1) := by decide +kernel
theorem dX5_lift_50 : decode cX5_lift 50 = .ok (.iconst 1, 1) := by decide +kernel
theorem dX5_lift_51 : decode cX5_lift 51 = .ok (.iload_n 2, 1) := by decide +kernel
theorem dX5_lift_52 : decode cX5_lift 52 = .ok (.invokevirtual 78, 3) := by decide +kernel
theorem dX5_lift_55 : decode cX5_lift 55 = .ok (.iload_n 3, 1) := by decide +kernel
theorem dX5_lift_56 : decode cX5_lift 56 = .ok (.ireturn, 1) := by decide +kernel
set_option maxRecDepth 20000 in
theorem ggX5_addColumn_X5_isFar : GoodIn wsX5_addColumn wsX5_isFar := goodIn_r _ [6, 7, 8, 5, 9] (by decide +kernel) (by decide +kernel)
set_option maxRecDepth 20000 in
theorem gX5_addColumn_X5_isFar : GoodIn wsX5_addColumn (va_wsS RX5 82 yX5_isFar wsX5_isFar) := goodIn_app (goodIn_of _ (by decide +kernel)) ggX5_addColumn_X5_isFar
set_option maxRecDepth 20000 in
theorem ggX5_addColumn_X5_within : GoodIn wsX5_addColumn wsX5_within := goodIn_r _ [9] (by decide +kernel) (by decide +kernel)
set_option maxRecDepth 20000 in
theorem gX5_addColumn_X5_within : GoodIn wsX5_addColumn (va_wsS RX5 32 yX5_within wsX5_within) := goodIn_app (goodIn_of _ (by decide +kernel)) ggX5_addColumn_X5_within
set_option maxRecDepth 20000 in
theorem ggX5_addColumn_X5_save : GoodIn wsX5_addColumn wsX5_save := goodIn_r _ [13, 14, 15, 1, 16, 17, 18, 19, 20, 21, 22, 23, 24, 25, 26, 27] (by decide +kernel) (by decide +kernel)
set_option maxRecDepth 20000 in
theorem gX5_addColumn_X5_save : GoodIn wsX5_addColumn (wsV RX5 91 RX5 yX5_save wsX5_save) := goodIn_app (goodIn_of _ (by decide +kernel)) ggX5_addColumn_X5_save
theorem dX5_addColumn_0 : decode cX5_addColumn 0 = .ok (.iload_n 1, 1) := by decide +kernel
theorem dX5_addColumn_1 : decode cX5_addColumn 1 = .ok (.invokestatic 82, 3) := by decide +kernel
theorem dX5_addColumn_4 : decode cX5_addColumn 4 = .ok (.ifCond .eq 27, 3) := by decide +kernel
theorem dX5_addColumn_7 : decode cX5_addColumn 7 = .ok (.iload_n 2, 1) := by decide +kernel
theorem dX5_addColumn_8 : decode cX5_addColumn 8 = .ok (.bipush (-12), 2) := by decide +kernel
theorem dX5_addColumn_10 : decode cX5_addColumn 10 = .ok (.bipush 12, 2) := by decide +kernel
theorem dX5_addColumn_12 : decode cX5_addColumn 12 = .ok (.invokestatic 32, 3) := by decide +kernel
theorem dX5_addColumn_15 : decode cX5_addColumn 15 = .ok (.ifCond .eq 16, 3) := by decide +kernel
theorem dX5_addColumn_18 : decode cX5_addColumn 18 = .ok (.iload_n 3, 1) := by decide +kernel
theorem dX5_addColumn_19 : decode cX5_addColumn 19 = .ok (.iconst 0, 1) := by decide +kernel
theorem dX5_addColumn_20 : decode cX5_addColumn 20 = .ok (.iconst 5, 1) := by decide +kernel
theorem dX5_addColumn_21 : decode cX5_addColumn 21 = .ok (.invokestatic 32, 3) := by decide +kernel
theorem dX5_addColumn_24 : decode cX5_addColumn 24 = .ok (.ifCond .eq 7, 3) := by decide +kernel
theorem dX5_addColumn_27 : decode cX5_addColumn 27 = .ok (.iconst 1, 1) := by decide +kernel
theorem dX5_addColumn_28 : decode cX5_addColumn 28 = .ok (.goto 4, 3) := by decide +kernel
theorem dX5_addColumn_31 : decode cX5_addColumn 31 = .ok (.iconst 0, 1) := by decide +kernel
theorem dX5_addColumn_32 : decode cX5_addColumn 32 = .ok (.istore 4, 2) := by decide +kernel
theorem dX5_addColumn_34 : decode cX5_addColumn 34 = .ok (.aload_n 0, 1) := by decide +kernel
theorem dX5_addColumn_35 : decode cX5_addColumn 35 = .ok (.iload 4, 2) := by decide +kernel
theorem dX5_addColumn_37 : decode cX5_addColumn 37 = .ok (.ifCond .ne 7, 3) := by decide +kernel
theorem dX5_addColumn_40 : decode cX5_addColumn 40 = .ok (.iconst 1, 1) := by decide +kernel
theorem dX5_addColumn_41 : decode cX5_addColumn 41 = .ok (.goto 18, 3) := by decide +kernel
theorem dX5_addColumn_44 : decode cX5_addColumn 44 = .ok (.aload_n 0, 1) := by decide +kernel
theorem dX5_addColumn_45 : decode cX5_addColumn 45 = .ok (.getfield 7, 3) := by decide +kernel
theorem dX5_addColumn_48 : decode cX5_addColumn 48 = .ok (.iconst 4, 1) := by decide +kernel
theorem dX5_addColumn_49 : decode cX5_addColumn 49 = .ok (.iaload, 1) := by decide +kernel
theorem dX5_addColumn_50 : decode cX5_addColumn 50 = .ok (.iconst 4, 1) := by decide +kernel
theorem dX5_addColumn_51 : decode cX5_addColumn 51 = .ok (.if_icmp .ne 7, 3) := by decide +kernel
theorem dX5_addColumn_54 : decode cX5_addColumn 54 = .ok (.iconst 2, 1) := by decide +kernel
theorem dX5_addColumn_55 : decode cX5_addColumn 55 = .ok (.goto 4, 3) := by decide +kernel
theorem dX5_addColumn_58 : decode cX5_addColumn 58 = .ok (.iconst 0, 1) := by decide +kernel
theorem dX5_addColumn_59 : decode cX5_addColumn 59 = .ok (.putfield 25, 3) := by decide +kernel
theorem dX5_addColumn_62 : decode cX5_addColumn 62 = .ok (.aload_n 0, 1) := by decide +kernel
theorem dX5_addColumn_63 : decode cX5_addColumn 63 = .ok (.getfield 25, 3) := by decide +kernel
theorem dX5_addColumn_66 : decode cX5_addColumn 66 = .ok (.ifCond .le 5, 3) := by decide +kernel
theorem dX5_addColumn_69 : decode cX5_addColumn 69 = .ok (.iconst 0, 1) := by decide +kernel
theorem dX5_addColumn_70 : decode cX5_addColumn 70 = .ok (.ireturn, 1) := by decide +kernel
theorem dX5_addColumn_71 : decode cX5_addColumn 71 = .ok (.aload_n 0, 1) := by decide +kernel
theorem dX5_addColumn_72 : decode cX5_addColumn 72 = .ok (.invokevirtual 91, 3) := by decide +kernel
theorem dX5_addColumn_75 : decode cX5_addColumn 75 = .ok (.bipush 45, 2) := by decide +kernel
theorem dX5_addColumn_77 : decode cX5_addColumn 77 = .ok (.iconst 3, 1) := by decide +kernel
theorem dX5_addColumn_78 : decode cX5_addColumn 78 = .ok (.aload_n 0, 1) := by decide +kernel
theorem dX5_addColumn_79 : decode cX5_addColumn 79 = .ok (.getfield 7, 3) := by decide +kernel
theorem dX5_addColumn_82 : decode cX5_addColumn 82 = .ok (.iconst 4, 1) := by decide +kernel
theorem dX5_addColumn_83 : decode cX5_addColumn 83 = .ok (.iaload, 1) := by decide +kernel
theorem dX5_addColumn_84 : decode cX5_addColumn 84 = .ok (.imul, 1) := by decide +kernel
theorem dX5_addColumn_85 : decode cX5_addColumn 85 = .ok (.iadd, 1) := by decide +kernel
theorem dX5_addColumn_86 : decode cX5_addColumn 86 = .ok (.istore 5, 2) := by decide +kernel
theorem dX5_addColumn_88 : decode cX5_addColumn 88 = .ok (.aload_n 0, 1) := by decide +kernel
theorem dX5_addColumn_89 : decode cX5_addColumn 89 = .ok (.getfield 7, 3) := by decide +kernel
theorem dX5_addColumn_92 : decode cX5_addColumn 92 = .ok (.iload 5, 2) := by decide +kernel
theorem dX5_addColumn_94 : decode cX5_addColumn 94 = .ok (.iconst 0, 1) := by decide +kernel
theorem dX5_addColumn_95 : decode cX5_addColumn 95 = .ok (.iadd, 1) := by decide +kernel
theorem dX5_addColumn_96 : decode cX5_addColumn 96 = .ok (.iload_n 1, 1) := by decide +kernel
theorem dX5_addColumn_97 : decode cX5_addColumn 97 = .ok (.iastore, 1) := by decide +kernel
theorem dX5_addColumn_98 : decode cX5_addColumn 98 = .ok (.aload_n 0, 1) := by decide +kernel
theorem dX5_addColumn_99 : decode cX5_addColumn 99 = .ok (.getfield 7, 3) := by decide +kernel
theorem dX5_addColumn_102 : decode cX5_addColumn 102 = .ok (.iload 5, 2) := by decide +kernel
theorem dX5_addColumn_104 : decode cX5_addColumn 104 = .ok (.iconst 1, 1) := by decide +kernel
theorem dX5_addColumn_105 : decode cX5_addColumn 105 = .ok (.iadd, 1) := by decide +kernel
theorem dX5_addColumn_106 : decode cX5_addColumn 106 = .ok (.iload_n 2, 1) := by decide +kernel
theorem dX5_addColumn_107 : decode cX5_addColumn 107 = .ok (.iastore, 1) := by decide +kernel
theorem dX5_addColumn_108 : decode cX5_addColumn 108 = .ok (.aload_n 0, 1) := by decide +kernel
theorem dX5_addColumn_109 : decode cX5_addColumn 109 = .ok (.getfield 7, 3) := by decide +kernel
theorem dX5_addColumn_112 : decode cX5_addColumn 112 = .ok (.iload 5, 2) := by decide +kernel
theorem dX5_addColumn_114 : decode cX5_addColumn 114 = .ok (.iconst 2, 1) := by decide +kernel
theorem dX5_addColumn_115 : decode cX5_addColumn 115 = .ok (.iadd, 1) := by decide +kernel
theorem dX5_addColumn_116 : decode cX5_addColumn 116 = .ok (.iload_n 3, 1) := by decide +kernel
theorem dX5_addColumn_117 : decode cX5_addColumn 117 = .ok (.iastore, 1) := by decide +kernel
theorem dX5_addColumn_118 : decode cX5_addColumn 118 = .ok (.aload_n 0, 1) := by decide +kernel
theorem dX5_addColumn_119 : decode cX5_addColumn 119 = .ok (.getfield 7, 3) := by decide +kernel
theorem dX5_addColumn_122 : decode cX5_addColumn 122 = .ok (.iconst 4, 1) := by decide +kernel
theorem dX5_addColumn_123 : decode cX5_addColumn 123 = .ok (.dup2, 1) := by decide +kernel
theorem dX5_addColumn_124 : decode cX5_addColumn 124 = .ok (.iaload, 1) := by decide +kernel
theorem dX5_addColumn_125 : decode cX5_addColumn 125 = .ok (.iconst 1, 1) := by decide +kernel
theorem dX5_addColumn_126 : decode cX5_addColumn 126 = .ok (.iadd, 1) := by decide +kernel
theorem dX5_addColumn_127 : decode cX5_addColumn 127 = .ok (.iastore, 1) := by decide +kernel
theorem dX5_addColumn_128 : decode cX5_addColumn 128 = .ok (.aload_n 0, 1) := by decide +kernel
theorem dX5_addColumn_129 : decode cX5_addColumn 129 = .ok (.getfield 7, 3) := by decide +kernel
theorem dX5_addColumn_132 : decode cX5_addColumn 132 = .ok (.iconst 4, 1) := by decide +kernel
theorem dX5_addColumn_133 : decode cX5_addColumn 133 = .ok (.iaload, 1) := by decide +kernel
theorem dX5_addColumn_134 : decode cX5_addColumn 134 = .ok (.iconst 1, 1) := by decide +kernel
theorem dX5_addColumn_135 : decode cX5_addColumn 135 = .ok (.isub, 1) := by decide +kernel
theorem dX5_addColumn_136 : decode cX5_addColumn 136 = .ok (.ireturn, 1) := by decide +kernel
set_option maxRecDepth 20000 in
theorem ggX5_removeColumn_X5_isColumn : GoodIn wsX5_removeColumn wsX5_isColumn := goodIn_r _ [7, 2, 8, 9, 6, 10, 17, 18, 19, 20, 21, 22, 23, 24, 25, 26, 27, 28] (by decide +kernel) (by decide +kernel)
set_option maxRecDepth 20000 in
theorem gX5_removeColumn_X5_isColumn : GoodIn wsX5_removeColumn (wsV RX5 101 RX5 yX5_isColumn wsX5_isColumn) := goodIn_app (goodIn_of _ (by decide +kernel)) ggX5_removeColumn_X5_isColumn
set_option maxRecDepth 20000 in
theorem ggX5_removeColumn_X5_save : GoodIn wsX5_removeColumn wsX5_save := goodIn_r _ [14, 15, 16, 2, 17, 18, 19, 20, 21, 22, 23, 24, 25, 26, 27, 28] (by decide +kernel) (by decide +kernel)
set_option maxRecDepth 20000 in
theorem gX5_removeColumn_X5_save : GoodIn wsX5_removeColumn (wsV RX5 91 RX5 yX5_save wsX5_save) := goodIn_app (goodIn_of _ (by decide +kernel)) ggX5_removeColumn_X5_save
theorem dX5_removeColumn_0 : decode cX5_removeColumn 0 = .ok (.aload_n 0, 1) := by decide +kernel
theorem dX5_removeColumn_1 : decode cX5_removeColumn 1 = .ok (.aload_n 0, 1) := by decide +kernel
theorem dX5_removeColumn_2 : decode cX5_removeColumn 2 = .ok (.iload_n 1, 1) := by decide +kernel
theorem dX5_removeColumn_3 : decode cX5_removeColumn 3 = .ok (.invokevirtual 101, 3) := by decide +kernel
theorem dX5_removeColumn_6 : decode cX5_removeColumn 6 = .ok (.ifCond .eq 7, 3) := by decide +kernel
theorem dX5_removeColumn_9 : decode cX5_removeColumn 9 = .ok (.iconst 0, 1) := by decide +kernel
theorem dX5_removeColumn_10 : decode cX5_removeColumn 10 = .ok (.goto 4, 3) := by decide +kernel
theorem dX5_removeColumn_13 : decode cX5_removeColumn 13 = .ok (.iconst 1, 1) := by decide +kernel
theorem dX5_removeColumn_14 : decode cX5_removeColumn 14 = .ok (.putfield 25, 3) := by decide +kernel
theorem dX5_removeColumn_17 : decode cX5_removeColumn 17 = .ok (.aload_n 0, 1) := by decide +kernel
theorem dX5_removeColumn_18 : decode cX5_removeColumn 18 = .ok (.getfield 25, 3) := by decide +kernel
theorem dX5_removeColumn_21 : decode cX5_removeColumn 21 = .ok (.ifCond .le 5, 3) := by decide +kernel
theorem dX5_removeColumn_24 : decode cX5_removeColumn 24 = .ok (.iconst 0, 1) := by decide +kernel
theorem dX5_removeColumn_25 : decode cX5_removeColumn 25 = .ok (.ireturn, 1) := by decide +kernel
theorem dX5_removeColumn_26 : decode cX5_removeColumn 26 = .ok (.aload_n 0, 1) := by decide +kernel
theorem dX5_removeColumn_27 : decode cX5_removeColumn 27 = .ok (.invokevirtual 91, 3) := by decide +kernel
theorem dX5_removeColumn_30 : decode cX5_removeColumn 30 = .ok (.aload_n 0, 1) := by decide +kernel
theorem dX5_removeColumn_31 : decode cX5_removeColumn 31 = .ok (.getfield 7, 3) := by decide +kernel
theorem dX5_removeColumn_34 : decode cX5_removeColumn 34 = .ok (.iconst 4, 1) := by decide +kernel
theorem dX5_removeColumn_35 : decode cX5_removeColumn 35 = .ok (.dup2, 1) := by decide +kernel
theorem dX5_removeColumn_36 : decode cX5_removeColumn 36 = .ok (.iaload, 1) := by decide +kernel
theorem dX5_removeColumn_37 : decode cX5_removeColumn 37 = .ok (.iconst 1, 1) := by decide +kernel
theorem dX5_removeColumn_38 : decode cX5_removeColumn 38 = .ok (.isub, 1) := by decide +kernel
theorem dX5_removeColumn_39 : decode cX5_removeColumn 39 = .ok (.iastore, 1) := by decide +kernel
theorem dX5_removeColumn_40 : decode cX5_removeColumn 40 = .ok (.bipush 45, 2) := by decide +kernel
theorem dX5_removeColumn_42 : decode cX5_removeColumn 42 = .ok (.iconst 3, 1) := by decide +kernel
theorem dX5_removeColumn_43 : decode cX5_removeColumn 43 = .ok (.iload_n 1, 1) := by decide +kernel
theorem dX5_removeColumn_44 : decode cX5_removeColumn 44 = .ok (.imul, 1) := by decide +kernel
theorem dX5_removeColumn_45 : decode cX5_removeColumn 45 = .ok (.iadd, 1) := by decide +kernel
theorem dX5_removeColumn_46 : decode cX5_removeColumn 46 = .ok (.istore_n 2, 1) := by decide +kernel
theorem dX5_removeColumn_47 : decode cX5_removeColumn 47 = .ok (.iload_n 2, 1) := by decide +kernel
theorem dX5_removeColumn_48 : decode cX5_removeColumn 48 = .ok (.bipush 45, 2) := by decide +kernel
theorem dX5_removeColumn_50 : decode cX5_removeColumn 50 = .ok (.iconst 3, 1) := by decide +kernel
theorem dX5_removeColumn_51 : decode cX5_removeColumn 51 = .ok (.aload_n 0, 1) := by decide +kernel
theorem dX5_removeColumn_52 : decode cX5_removeColumn 52 = .ok (.getfield 7, 3) := by decide +kernel
theorem dX5_removeColumn_55 : decode cX5_removeColumn 55 = .ok (.iconst 4, 1) := by decide +kernel
theorem dX5_removeColumn_56 : decode cX5_removeColumn 56 = .ok (.iaload, 1) := by decide +kernel
theorem dX5_removeColumn_57 : decode cX5_removeColumn 57 = .ok (.imul, 1) := by decide +kernel
theorem dX5_removeColumn_58 : decode cX5_removeColumn 58 = .ok (.iadd, 1) := by decide +kernel
theorem dX5_removeColumn_59 : decode cX5_removeColumn 59 = .ok (.if_icmp .ge 23, 3) := by decide +kernel
theorem dX5_removeColumn_62 : decode cX5_removeColumn 62 = .ok (.aload_n 0, 1) := by decide +kernel
theorem dX5_removeColumn_63 : decode cX5_removeColumn 63 = .ok (.getfield 7, 3) := by decide +kernel
theorem dX5_removeColumn_66 : decode cX5_removeColumn 66 = .ok (.iload_n 2, 1) := by decide +kernel
theorem dX5_removeColumn_67 : decode cX5_removeColumn 67 = .ok (.aload_n 0, 1) := by decide +kernel
theorem dX5_removeColumn_68 : decode cX5_removeColumn 68 = .ok (.getfield 7, 3) := by decide +kernel
theorem dX5_removeColumn_71 : decode cX5_removeColumn 71 = .ok (.iload_n 2, 1) := by decide +kernel
theorem dX5_removeColumn_72 : decode cX5_removeColumn 72 = .ok (.iconst 3, 1) := by decide +kernel
theorem dX5_removeColumn_73 : decode cX5_removeColumn 73 = .ok (.iadd, 1) := by decide +kernel
theorem dX5_removeColumn_74 : decode cX5_removeColumn 74 = .ok (.iaload, 1) := by decide +kernel
theorem dX5_removeColumn_75 : decode cX5_removeColumn 75 = .ok (.iastore, 1) := by decide +kernel
theorem dX5_removeColumn_76 : decode cX5_removeColumn 76 = .ok (.iinc 2 1, 3) := by decide +kernel
theorem dX5_removeColumn_79 : decode cX5_removeColumn 79 = .ok (.goto (-32), 3) := by decide +kernel
theorem dX5_removeColumn_82 : decode cX5_removeColumn 82 = .ok (.aload_n 0, 1) := by decide +kernel
theorem dX5_removeColumn_83 : decode cX5_removeColumn 83 = .ok (.getfield 7, 3) := by decide +kernel
theorem dX5_removeColumn_86 : decode cX5_removeColumn 86 = .ok (.iconst 4, 1) := by decide +kernel
theorem dX5_removeColumn_87 : decode cX5_removeColumn 87 = .ok (.iaload, 1) := by decide +kernel
theorem dX5_removeColumn_88 : decode cX5_removeColumn 88 = .ok (.ireturn, 1) := by decide +kernel
set_option maxRecDepth 20000 in
theorem ggX5_isSetting_X5_within : GoodIn wsX5_isSetting wsX5_within := goodIn_r _ [4] (by decide +kernel) (by decide +kernel)
set_option maxRecDepth 20000 in
theorem gX5_isSetting_X5_within : GoodIn wsX5_isSetting (va_wsS RX5 32 yX5_within wsX5_within) := goodIn_app (goodIn_of _ (by decide +kernel)) ggX5_isSetting_X5_within
theorem dX5_isSetting_0 : decode cX5_isSetting 0 = .ok (.iload_n 0, 1) := by decide +kernel
theorem dX5_isSetting_1 : decode cX5_isSetting 1 = .ok (.iconst 0, 1) := by decide +kernel
theorem dX5_isSetting_2 : decode cX5_isSetting 2 = .ok (.iconst 2, 1) := by decide +kernel
theorem dX5_isSetting_3 : decode cX5_isSetting 3 = .ok (.invokestatic 32, 3) := by decide +kernel
theorem dX5_isSetting_6 : decode cX5_isSetting 6 = .ok (.ireturn, 1) := by decide +kernel
set_option maxRecDepth 20000 in
theorem ggX5_isValue_X5_within : GoodIn wsX5_isValue wsX5_within := goodIn_r _ [4] (by decide +kernel) (by decide +kernel)
set_option maxRecDepth 20000 in
theorem gX5_isValue_X5_within : GoodIn wsX5_isValue (va_wsS RX5 32 yX5_within wsX5_within) := goodIn_app (goodIn_of _ (by decide +kernel)) ggX5_isValue_X5_within
theorem dX5_isValue_0 : decode cX5_isValue 0 = .ok (.iload_n 0, 1) := by decide +kernel
theorem dX5_isValue_1 : decode cX5_isValue 1 = .ok (.ifCond .ne 14, 3) := by decide +kernel
theorem dX5_isValue_4 : decode cX5_isValue 4 = .ok (.iload_n 1, 1) := by decide +kernel
theorem dX5_isValue_5 : decode cX5_isValue 5 = .ok (.iconst 0, 1) := by decide +kernel
theorem dX5_isValue_6 : decode cX5_isValue 6 = .ok (.sipush 999, 3) := by decide +kernel
theorem dX5_isValue_9 : decode cX5_isValue 9 = .ok (.invokestatic 32, 3) := by decide +kernel
theorem dX5_isValue_12 : decode cX5_isValue 12 = .ok (.goto 26, 3) := by decide +kernel
theorem dX5_isValue_15 : decode cX5_isValue 15 = .ok (.iload_n 0, 1) := by decide +kernel
theorem dX5_isValue_16 : decode cX5_isValue 16 = .ok (.iconst 1, 1) := by decide +kernel
theorem dX5_isValue_17 : decode cX5_isValue 17 = .ok (.if_icmp .ne 14, 3) := by decide +kernel
theorem dX5_isValue_20 : decode cX5_isValue 20 = .ok (.iload_n 1, 1) := by decide +kernel
theorem dX5_isValue_21 : decode cX5_isValue 21 = .ok (.iconst 1, 1) := by decide +kernel
theorem dX5_isValue_22 : decode cX5_isValue 22 = .ok (.sipush 300, 3) := by decide +kernel
theorem dX5_isValue_25 : decode cX5_isValue 25 = .ok (.invokestatic 32, 3) := by decide +kernel
theorem dX5_isValue_28 : decode cX5_isValue 28 = .ok (.goto 10, 3) := by decide +kernel
theorem dX5_isValue_31 : decode cX5_isValue 31 = .ok (.iload_n 1, 1) := by decide +kernel
theorem dX5_isValue_32 : decode cX5_isValue 32 = .ok (.iconst 0, 1) := by decide +kernel
theorem dX5_isValue_33 : decode cX5_isValue 33 = .ok (.bipush 100, 2) := by decide +kernel
theorem dX5_isValue_35 : decode cX5_isValue 35 = .ok (.invokestatic 32, 3) := by decide +kernel
theorem dX5_isValue_38 : decode cX5_isValue 38 = .ok (.ireturn, 1) := by decide +kernel
set_option maxRecDepth 20000 in
theorem ggX5_set_X5_isSetting : GoodIn wsX5_set wsX5_isSetting := goodIn_r _ [6, 7, 8, 5, 9] (by decide +kernel) (by decide +kernel)
set_option maxRecDepth 20000 in
theorem gX5_set_X5_isSetting : GoodIn wsX5_set (va_wsS RX5 104 yX5_isSetting wsX5_isSetting) := goodIn_app (goodIn_of _ (by decide +kernel)) ggX5_set_X5_isSetting
set_option maxRecDepth 20000 in
theorem ggX5_set_X5_isValue : GoodIn wsX5_set wsX5_isValue := goodIn_r _ [12, 7, 8, 5, 9] (by decide +kernel) (by decide +kernel)
set_option maxRecDepth 20000 in
theorem gX5_set_X5_isValue : GoodIn wsX5_set (va_wsS RX5 107 yX5_isValue wsX5_isValue) := goodIn_app (goodIn_of _ (by decide +kernel)) ggX5_set_X5_isValue
set_option maxRecDepth 20000 in
theorem ggX5_set_X5_save : GoodIn wsX5_set wsX5_save := goodIn_r _ [16, 17, 18, 2, 19, 20, 21, 22, 23, 24, 25, 26, 27, 28, 29, 30] (by decide +kernel) (by decide +kernel)
set_option maxRecDepth 20000 in
theorem gX5_set_X5_save : GoodIn wsX5_set (wsV RX5 91 RX5 yX5_save wsX5_save) := goodIn_app (goodIn_of _ (by decide +kernel)) ggX5_set_X5_save
theorem dX5_set_0 : decode cX5_set 0 = .ok (.aload_n 0, 1) := by decide +kernel
theorem dX5_set_1 : decode cX5_set 1 = .ok (.iload_n 1, 1) := by decide +kernel
theorem dX5_set_2 : decode cX5_set 2 = .ok (.invokestatic 104, 3) := by decide +kernel
theorem dX5_set_5 : decode cX5_set 5 = .ok (.ifCond .ne 7, 3) := by decide +kernel
theorem dX5_set_8 : decode cX5_set 8 = .ok (.iconst 1, 1) := by decide +kernel
theorem dX5_set_9 : decode cX5_set 9 = .ok (.goto 16, 3) := by decide +kernel
theorem dX5_set_12 : decode cX5_set 12 = .ok (.iload_n 1, 1) := by decide +kernel
theorem dX5_set_13 : decode cX5_set 13 = .ok (.iload_n 2, 1) := by decide +kernel
theorem dX5_set_14 : decode cX5_set 14 = .ok (.invokestatic 107, 3) := by decide +kernel
theorem dX5_set_17 : decode cX5_set 17 = .ok (.ifCond .eq 7, 3) := by decide +kernel
theorem dX5_set_20 : decode cX5_set 20 = .ok (.iconst 0, 1) := by decide +kernel
theorem dX5_set_21 : decode cX5_set 21 = .ok (.goto 4, 3) := by decide +kernel
theorem dX5_set_24 : decode cX5_set 24 = .ok (.iconst 2, 1) := by decide +kernel
theorem dX5_set_25 : decode cX5_set 25 = .ok (.putfield 25, 3) := by decide +kernel
theorem dX5_set_28 : decode cX5_set 28 = .ok (.aload_n 0, 1) := by decide +kernel
theorem dX5_set_29 : decode cX5_set 29 = .ok (.getfield 25, 3) := by decide +kernel
theorem dX5_set_32 : decode cX5_set 32 = .ok (.ifCond .le 5, 3) := by decide +kernel
theorem dX5_set_35 : decode cX5_set 35 = .ok (.iconst 0, 1) := by decide +kernel
theorem dX5_set_36 : decode cX5_set 36 = .ok (.ireturn, 1) := by decide +kernel
theorem dX5_set_37 : decode cX5_set 37 = .ok (.aload_n 0, 1) := by decide +kernel
theorem dX5_set_38 : decode cX5_set 38 = .ok (.invokevirtual 91, 3) := by decide +kernel
theorem dX5_set_41 : decode cX5_set 41 = .ok (.aload_n 0, 1) := by decide +kernel
theorem dX5_set_42 : decode cX5_set 42 = .ok (.getfield 7, 3) := by decide +kernel
theorem dX5_set_45 : decode cX5_set 45 = .ok (.iload_n 1, 1) := by decide +kernel
theorem dX5_set_46 : decode cX5_set 46 = .ok (.iaload, 1) := by decide +kernel
theorem dX5_set_47 : decode cX5_set 47 = .ok (.istore_n 3, 1) := by decide +kernel
theorem dX5_set_48 : decode cX5_set 48 = .ok (.aload_n 0, 1) := by decide +kernel
theorem dX5_set_49 : decode cX5_set 49 = .ok (.getfield 7, 3) := by decide +kernel
theorem dX5_set_52 : decode cX5_set 52 = .ok (.iload_n 1, 1) := by decide +kernel
theorem dX5_set_53 : decode cX5_set 53 = .ok (.iload_n 2, 1) := by decide +kernel
theorem dX5_set_54 : decode cX5_set 54 = .ok (.iastore, 1) := by decide +kernel
theorem dX5_set_55 : decode cX5_set 55 = .ok (.iload_n 3, 1) := by decide +kernel
theorem dX5_set_56 : decode cX5_set 56 = .ok (.ireturn, 1) := by decide +kernel
set_option maxRecDepth 20000 in
theorem ggX5_takenIn_X5_of : GoodIn wsX5_takenIn wsX5_of := goodIn_r _ [5, 6, 11, 12, 13, 14, 15, 16, 17, 18, 19, 20, 21, 22] (by decide +kernel) (by decide +kernel)
set_option maxRecDepth 20000 in
theorem gX5_takenIn_X5_of : GoodIn wsX5_takenIn (wsV RX5 40 RX5 yX5_of wsX5_of) := goodIn_app (goodIn_of _ (by decide +kernel)) ggX5_takenIn_X5_of
set_option maxRecDepth 20000 in
theorem ggX5_takenIn_X5_isTaken : GoodIn wsX5_takenIn wsX5_isTaken := goodIn_r _ [10, 1, 2, 3, 4, 5, 6, 11, 12, 13, 14, 15, 16, 17, 18, 19, 20, 21, 22] (by decide +kernel) (by decide +kernel)
set_option maxRecDepth 20000 in
theorem gX5_takenIn_X5_isTaken : GoodIn wsX5_takenIn (wsV RX5 58 RX5 yX5_isTaken wsX5_isTaken) := goodIn_app (goodIn_of _ (by decide +kernel)) ggX5_takenIn_X5_isTaken
theorem dX5_takenIn_0 : decode cX5_takenIn 0 = .ok (.iconst 0, 1) := by decide +kernel
theorem dX5_takenIn_1 : decode cX5_takenIn 1 = .ok (.istore_n 2, 1) := by decide +kernel
theorem dX5_takenIn_2 : decode cX5_takenIn 2 = .ok (.iconst 0, 1) := by decide +kernel
theorem dX5_takenIn_3 : decode cX5_takenIn 3 = .ok (.istore_n 3, 1) := by decide +kernel
theorem dX5_takenIn_4 : decode cX5_takenIn 4 = .ok (.iload_n 3, 1) := by decide +kernel
theorem dX5_takenIn_5 : decode cX5_takenIn 5 = .ok (.aload_n 0, 1) := by decide +kernel
theorem dX5_takenIn_6 : decode cX5_takenIn 6 = .ok (.iload_n 1, 1) := by decide +kernel
theorem dX5_takenIn_7 : decode cX5_takenIn 7 = .ok (.iconst 2, 1) := by decide +kernel
theorem dX5_takenIn_8 : decode cX5_takenIn 8 = .ok (.invokevirtual 40, 3) := by decide +kernel
theorem dX5_takenIn_11 : decode cX5_takenIn 11 = .ok (.if_icmp .ge 26, 3) := by decide +kernel
theorem dX5_takenIn_14 : decode cX5_takenIn 14 = .ok (.iload_n 2, 1) := by decide +kernel
theorem dX5_takenIn_15 : decode cX5_takenIn 15 = .ok (.aload_n 0, 1) := by decide +kernel
theorem dX5_takenIn_16 : decode cX5_takenIn 16 = .ok (.iload_n 1, 1) := by decide +kernel
theorem dX5_takenIn_17 : decode cX5_takenIn 17 = .ok (.iload_n 3, 1) := by decide +kernel
theorem dX5_takenIn_18 : decode cX5_takenIn 18 = .ok (.invokevirtual 58, 3) := by decide +kernel
theorem dX5_takenIn_21 : decode cX5_takenIn 21 = .ok (.ifCond .eq 7, 3) := by decide +kernel
theorem dX5_takenIn_24 : decode cX5_takenIn 24 = .ok (.iconst 1, 1) := by decide +kernel
theorem dX5_takenIn_25 : decode cX5_takenIn 25 = .ok (.goto 4, 3) := by decide +kernel
theorem dX5_takenIn_28 : decode cX5_takenIn 28 = .ok (.iconst 0, 1) := by decide +kernel
theorem dX5_takenIn_29 : decode cX5_takenIn 29 = .ok (.iadd, 1) := by decide +kernel
theorem dX5_takenIn_30 : decode cX5_takenIn 30 = .ok (.istore_n 2, 1) := by decide +kernel
theorem dX5_takenIn_31 : decode cX5_takenIn 31 = .ok (.iinc 3 1, 3) := by decide +kernel
theorem dX5_takenIn_34 : decode cX5_takenIn 34 = .ok (.goto (-30), 3) := by decide +kernel
theorem dX5_takenIn_37 : decode cX5_takenIn 37 = .ok (.iload_n 2, 1) := by decide +kernel
theorem dX5_takenIn_38 : decode cX5_takenIn 38 = .ok (.ireturn, 1) := by decide +kernel
set_option maxRecDepth 20000 in
theorem ggX5_allTaken_X5_takenIn : GoodIn wsX5_allTaken wsX5_takenIn := goodIn_r _ [6, 7, 8, 9, 5, 10, 1, 11, 12, 13, 14, 15, 16, 17, 18, 19, 20, 21, 22, 23, 24, 25, 26] (by decide +kernel) (by decide +kernel)
set_option maxRecDepth 20000 in
theorem gX5_allTaken_X5_takenIn : GoodIn wsX5_allTaken (wsV RX5 110 RX5 yX5_takenIn wsX5_takenIn) := goodIn_app (goodIn_of _ (by decide +kernel)) ggX5_allTaken_X5_takenIn
theorem dX5_allTaken_0 : decode cX5_allTaken 0 = .ok (.iconst 0, 1) := by decide +kernel
theorem dX5_allTaken_1 : decode cX5_allTaken 1 = .ok (.istore_n 1, 1) := by decide +kernel
theorem dX5_allTaken_2 : decode cX5_allTaken 2 = .ok (.iconst 0, 1) := by decide +kernel
theorem dX5_allTaken_3 : decode cX5_allTaken 3 = .ok (.istore_n 2, 1) := by decide +kernel
theorem dX5_allTaken_4 : decode cX5_allTaken 4 = .ok (.iload_n 2, 1) := by decide +kernel
theorem dX5_allTaken_5 : decode cX5_allTaken 5 = .ok (.aload_n 0, 1) := by decide +kernel
theorem dX5_allTaken_6 : decode cX5_allTaken 6 = .ok (.getfield 7, 3) := by decide +kernel
theorem dX5_allTaken_9 : decode cX5_allTaken 9 = .ok (.iconst 3, 1) := by decide +kernel
theorem dX5_allTaken_10 : decode cX5_allTaken 10 = .ok (.iaload, 1) := by decide +kernel
theorem dX5_allTaken_11 : decode cX5_allTaken 11 = .ok (.if_icmp .ge 17, 3) := by decide +kernel
theorem dX5_allTaken_14 : decode cX5_allTaken 14 = .ok (.iload_n 1, 1) := by decide +kernel
theorem dX5_allTaken_15 : decode cX5_allTaken 15 = .ok (.aload_n 0, 1) := by decide +kernel
theorem dX5_allTaken_16 : decode cX5_allTaken 16 = .ok (.iload_n 2, 1) := by decide +kernel
theorem dX5_allTaken_17 : decode cX5_allTaken 17 = .ok (.invokevirtual 110, 3) := by decide +kernel
theorem dX5_allTaken_20 : decode cX5_allTaken 20 = .ok (.iadd, 1) := by decide +kernel
theorem dX5_allTaken_21 : decode cX5_allTaken 21 = .ok (.istore_n 1, 1) := by decide +kernel
theorem dX5_allTaken_22 : decode cX5_allTaken 22 = .ok (.iinc 2 1, 3) := by decide +kernel
theorem dX5_allTaken_25 : decode cX5_allTaken 25 = .ok (.goto (-21), 3) := by decide +kernel
theorem dX5_allTaken_28 : decode cX5_allTaken 28 = .ok (.iload_n 1, 1) := by decide +kernel
theorem dX5_allTaken_29 : decode cX5_allTaken 29 = .ok (.ireturn, 1) := by decide +kernel
set_option maxRecDepth 20000 in
theorem ggX5_take_X5_isSeat : GoodIn wsX5_take wsX5_isSeat := goodIn_r _ [6, 7, 8, 9, 5, 10, 11, 12, 13, 14, 15, 16, 17, 18, 52, 53, 54, 55, 56, 57, 58, 59, 60, 61, 62, 63] (by decide +kernel) (by decide +kernel)
set_option maxRecDepth 20000 in
theorem gX5_take_X5_isSeat : GoodIn wsX5_take (wsV RX5 113 RX5 yX5_isSeat wsX5_isSeat) := goodIn_app (goodIn_of _ (by decide +kernel)) ggX5_take_X5_isSeat
set_option maxRecDepth 20000 in
theorem ggX5_take_X5_isTaken : GoodIn wsX5_take wsX5_isTaken := goodIn_r _ [22, 15, 16, 17, 5, 18, 11, 52, 53, 54, 55, 56, 57, 58, 59, 60, 61, 62, 63] (by decide +kernel) (by decide +kernel)
set_option maxRecDepth 20000 in
theorem gX5_take_X5_isTaken : GoodIn wsX5_take (wsV RX5 58 RX5 yX5_isTaken wsX5_isTaken) := goodIn_app (goodIn_of _ (by decide +kernel)) ggX5_take_X5_isTaken
set_option maxRecDepth 20000 in
theorem ggX5_take_X5_save : GoodIn wsX5_take wsX5_save := goodIn_r _ [26, 27, 28, 11, 52, 53, 54, 55, 56, 57, 58, 59, 60, 61, 62, 63] (by decide +kernel) (by decide +kernel)
set_option maxRecDepth 20000 in
theorem gX5_take_X5_save : GoodIn wsX5_take (wsV RX5 91 RX5 yX5_save wsX5_save) := goodIn_app (goodIn_of _ (by decide +kernel)) ggX5_take_X5_save
set_option maxRecDepth 20000 in
theorem ggX5_take_X5_of : GoodIn wsX5_take wsX5_of := goodIn_r _ [18, 11, 52, 53, 54, 55, 56, 57, 58, 59, 60, 61, 62, 63] (by decide +kernel) (by decide +kernel)
set_option maxRecDepth 20000 in
theorem gX5_take_X5_of : GoodIn wsX5_take (wsV RX5 40 RX5 yX5_of wsX5_of) := goodIn_app (goodIn_of _ (by decide +kernel)) ggX5_take_X5_of
set_option maxRecDepth 20000 in
theorem ggX5_take_X5_put : GoodIn wsX5_take wsX5_put := goodIn_r _ [32, 11, 52, 53, 54, 55, 56, 57, 58, 59, 60, 61, 62, 63] (by decide +kernel) (by decide +kernel)
set_option maxRecDepth 20000 in
theorem gX5_take_X5_put : GoodIn wsX5_take (wsV RX5 78 RX5 yX5_put wsX5_put) := goodIn_app (goodIn_of _ (by decide +kernel)) ggX5_take_X5_put
set_option maxRecDepth 20000 in
theorem ggX5_take_X5_peopleInWay : GoodIn wsX5_take wsX5_peopleInWay := goodIn_r _ [36, 15, 16, 17, 5, 18, 11, 19, 20, 21, 22, 37, 38, 39, 40, 41, 42, 43, 44, 45, 46, 47, 48, 49, 50, 51, 52, 53, 54, 55, 56, 57, 58, 59, 60, 61, 62, 63] (by decide +kernel) (by decide +kernel)
set_option maxRecDepth 20000 in
theorem gX5_take_X5_peopleInWay : GoodIn wsX5_take (wsV RX5 68 RX5 yX5_peopleInWay wsX5_peopleInWay) := goodIn_app (goodIn_of _ (by decide +kernel)) ggX5_take_X5_peopleInWay
theorem dX5_take_0 : decode cX5_take 0 = .ok (.aload_n 0, 1) := by decide +kernel
theorem dX5_take_1 : decode cX5_take 1 = .ok (.aload_n 0, 1) := by decide +kernel
theorem dX5_take_2 : decode cX5_take 2 = .ok (.iload_n 1, 1) := by decide +kernel
theorem dX5_take_3 : decode cX5_take 3 = .ok (.iload_n 2, 1) := by decide +kernel
theorem dX5_take_4 : decode cX5_take 4 = .ok (.invokevirtual 113, 3) := by decide +kernel
theorem dX5_take_7 : decode cX5_take 7 = .ok (.ifCond .ne 7, 3) := by decide +kernel
theorem dX5_take_10 : decode cX5_take 10 = .ok (.iconst 1, 1) := by decide +kernel
theorem dX5_take_11 : decode cX5_take 11 = .ok (.goto 17, 3) := by decide +kernel
theorem dX5_take_14 : decode cX5_take 14 = .ok (.aload_n 0, 1) := by decide +kernel
theorem dX5_take_15 : decode cX5_take 15 = .ok (.iload_n 1, 1) := by decide +kernel
theorem dX5_take_16 : decode cX5_take 16 = .ok (.iload_n 2, 1) := by decide +kernel
theorem dX5_take_17 : decode cX5_take 17 = .ok (.invokevirtual 58, 3) := by decide +kernel
theorem dX5_take_20 : decode cX5_take 20 = .ok (.ifCond .eq 7, 3) := by decide +kernel
theorem dX5_take_23 : decode cX5_take 23 = .ok (.iconst 2, 1) := by decide +kernel
theorem dX5_take_24 : decode cX5_take 24 = .ok (.goto 4, 3) := by decide +kernel
theorem dX5_take_27 : decode cX5_take 27 = .ok (.iconst 0, 1) := by decide +kernel
theorem dX5_take_28 : decode cX5_take 28 = .ok (.putfield 25, 3) := by decide +kernel
theorem dX5_take_31 : decode cX5_take 31 = .ok (.aload_n 0, 1) := by decide +kernel
theorem dX5_take_32 : decode cX5_take 32 = .ok (.getfield 25, 3) := by decide +kernel
theorem dX5_take_35 : decode cX5_take 35 = .ok (.ifCond .le 5, 3) := by decide +kernel
theorem dX5_take_38 : decode cX5_take 38 = .ok (.iconst 0, 1) := by decide +kernel
theorem dX5_take_39 : decode cX5_take 39 = .ok (.ireturn, 1) := by decide +kernel
theorem dX5_take_40 : decode cX5_take 40 = .ok (.aload_n 0, 1) := by decide +kernel
theorem dX5_take_41 : decode cX5_take 41 = .ok (.invokevirtual 91, 3) := by decide +kernel
theorem dX5_take_44 : decode cX5_take 44 = .ok (.aload_n 0, 1) := by decide +kernel
theorem dX5_take_45 : decode cX5_take 45 = .ok (.iload_n 1, 1) := by decide +kernel
theorem dX5_take_46 : decode cX5_take 46 = .ok (.iconst 3, 1) := by decide +kernel
theorem dX5_take_47 : decode cX5_take 47 = .ok (.aload_n 0, 1) := by decide +kernel
theorem dX5_take_48 : decode cX5_take 48 = .ok (.iload_n 1, 1) := by decide +kernel
theorem dX5_take_49 : decode cX5_take 49 = .ok (.iconst 3, 1) := by decide +kernel
theorem dX5_take_50 : decode cX5_take 50 = .ok (.invokevirtual 40, 3) := by decide +kernel
theorem dX5_take_53 : decode cX5_take 53 = .ok (.iconst 1, 1) := by decide +kernel
theorem dX5_take_54 : decode cX5_take 54 = .ok (.iload_n 2, 1) := by decide +kernel
theorem dX5_take_55 : decode cX5_take 55 = .ok (.ishl, 1) := by decide +kernel
theorem dX5_take_56 : decode cX5_take 56 = .ok (.ior, 1) := by decide +kernel
theorem dX5_take_57 : decode cX5_take 57 = .ok (.invokevirtual 78, 3) := by decide +kernel
theorem dX5_take_60 : decode cX5_take 60 = .ok (.aload_n 0, 1) := by decide +kernel
theorem dX5_take_61 : decode cX5_take 61 = .ok (.iload_n 1, 1) := by decide +kernel
theorem dX5_take_62 : decode cX5_take 62 = .ok (.iload_n 2, 1) := by decide +kernel
theorem dX5_take_63 : decode cX5_take 63 = .ok (.invokevirtual 68, 3) := by decide +kernel
theorem dX5_take_66 : decode cX5_take 66 = .ok (.ireturn, 1) := by decide +kernel
set_option maxRecDepth 20000 in
theorem ggX5_leave_X5_isSeat : GoodIn wsX5_leave wsX5_isSeat := goodIn_r _ [6, 7, 8, 9, 5, 10, 11, 12, 13, 14, 15, 16, 17, 18, 41, 42, 43, 44, 45, 46, 47, 48, 49, 50, 51, 52] (by decide +kernel) (by decide +kernel)
set_option maxRecDepth 20000 in
theorem gX5_leave_X5_isSeat : GoodIn wsX5_leave (wsV RX5 113 RX5 yX5_isSeat wsX5_isSeat) := goodIn_app (goodIn_of _ (by decide +kernel)) ggX5_leave_X5_isSeat
set_option maxRecDepth 20000 in
theorem ggX5_leave_X5_isTaken : GoodIn wsX5_leave wsX5_isTaken := goodIn_r _ [22, 15, 16, 17, 5, 18, 11, 41, 42, 43, 44, 45, 46, 47, 48, 49, 50, 51, 52] (by decide +kernel) (by decide +kernel)
set_option maxRecDepth 20000 in
theorem gX5_leave_X5_isTaken : GoodIn wsX5_leave (wsV RX5 58 RX5 yX5_isTaken wsX5_isTaken) := goodIn_app (goodIn_of _ (by decide +kernel)) ggX5_leave_X5_isTaken
set_option maxRecDepth 20000 in
theorem ggX5_leave_X5_save : GoodIn wsX5_leave wsX5_save := goodIn_r _ [26, 27, 28, 11, 41, 42, 43, 44, 45, 46, 47, 48, 49, 50, 51, 52] (by decide +kernel) (by decide +kernel)
set_option maxRecDepth 20000 in
theorem gX5_leave_X5_save : GoodIn wsX5_leave (wsV RX5 91 RX5 yX5_save wsX5_save) := goodIn_app (goodIn_of _ (by decide +kernel)) ggX5_leave_X5_save
set_option maxRecDepth 20000 in
theorem ggX5_leave_X5_of : GoodIn wsX5_leave wsX5_of := goodIn_r _ [18, 11, 41, 42, 43, 44, 45, 46, 47, 48, 49, 50, 51, 52] (by decide +kernel) (by decide +kernel)
set_option maxRecDepth 20000 in
theorem gX5_leave_X5_of : GoodIn wsX5_leave (wsV RX5 40 RX5 yX5_of wsX5_of) := goodIn_app (goodIn_of _ (by decide +kernel)) ggX5_leave_X5_of
set_option maxRecDepth 20000 in
theorem ggX5_leave_X5_put : GoodIn wsX5_leave wsX5_put := goodIn_r _ [32, 11, 41, 42, 43, 44, 45, 46, 47, 48, 49, 50, 51, 52] (by decide +kernel) (by decide +kernel)
set_option maxRecDepth 20000 in
theorem gX5_leave_X5_put : GoodIn wsX5_leave (wsV RX5 78 RX5 yX5_put wsX5_put) := goodIn_app (goodIn_of _ (by decide +kernel)) ggX5_leave_X5_put
set_option maxRecDepth 20000 in
theorem ggX5_leave_X5_allTaken : GoodIn wsX5_leave wsX5_allTaken := goodIn_r _ [36, 11, 37, 38, 39, 5, 40, 15, 16, 17, 18, 19, 20, 21, 22, 41, 42, 43, 44, 45, 46, 47, 48, 49, 50, 51, 52] (by decide +kernel) (by decide +kernel)
set_option maxRecDepth 20000 in
theorem gX5_leave_X5_allTaken : GoodIn wsX5_leave (wsV RX5 116 RX5 yX5_allTaken wsX5_allTaken) := goodIn_app (goodIn_of _ (by decide +kernel)) ggX5_leave_X5_allTaken
theorem dX5_leave_0 : decode cX5_leave 0 = .ok (.aload_n 0, 1) := by decide +kernel
theorem dX5_leave_1 : decode cX5_leave 1 = .ok (.aload_n 0, 1) := by decide +kernel
theorem dX5_leave_2 : decode cX5_leave 2 = .ok (.iload_n 1, 1) := by decide +kernel
theorem dX5_leave_3 : decode cX5_leave 3 = .ok (.iload_n 2, 1) := by decide +kernel
theorem dX5_leave_4 : decode cX5_leave 4 = .ok (.invokevirtual 113, 3) := by decide +kernel
theorem dX5_leave_7 : decode cX5_leave 7 = .ok (.ifCond .ne 7, 3) := by decide +kernel
theorem dX5_leave_10 : decode cX5_leave 10 = .ok (.iconst 1, 1) := by decide +kernel
theorem dX5_leave_11 : decode cX5_leave 11 = .ok (.goto 17, 3) := by decide +kernel
theorem dX5_leave_14 : decode cX5_leave 14 = .ok (.aload_n 0, 1) := by decide +kernel
theorem dX5_leave_15 : decode cX5_leave 15 = .ok (.iload_n 1, 1) := by decide +kernel
theorem dX5_leave_16 : decode cX5_leave 16 = .ok (.iload_n 2, 1) := by decide +kernel
theorem dX5_leave_17 : decode cX5_leave 17 = .ok (.invokevirtual 58, 3) := by decide +kernel
theorem dX5_leave_20 : decode cX5_leave 20 = .ok (.ifCond .eq 7, 3) := by decide +kernel
theorem dX5_leave_23 : decode cX5_leave 23 = .ok (.iconst 0, 1) := by decide +kernel
theorem dX5_leave_24 : decode cX5_leave 24 = .ok (.goto 4, 3) := by decide +kernel
theorem dX5_leave_27 : decode cX5_leave 27 = .ok (.iconst 2, 1) := by decide +kernel
theorem dX5_leave_28 : decode cX5_leave 28 = .ok (.putfield 25, 3) := by decide +kernel
theorem dX5_leave_31 : decode cX5_leave 31 = .ok (.aload_n 0, 1) := by decide +kernel
theorem dX5_leave_32 : decode cX5_leave 32 = .ok (.getfield 25, 3) := by decide +kernel
theorem dX5_leave_35 : decode cX5_leave 35 = .ok (.ifCond .le 5, 3) := by decide +kernel
theorem dX5_leave_38 : decode cX5_leave 38 = .ok (.iconst 0, 1) := by decide +kernel
theorem dX5_leave_39 : decode cX5_leave 39 = .ok (.ireturn, 1) := by decide +kernel
theorem dX5_leave_40 : decode cX5_leave 40 = .ok (.aload_n 0, 1) := by decide +kernel
theorem dX5_leave_41 : decode cX5_leave 41 = .ok (.invokevirtual 91, 3) := by decide +kernel
theorem dX5_leave_44 : decode cX5_leave 44 = .ok (.aload_n 0, 1) := by decide +kernel
theorem dX5_leave_45 : decode cX5_leave 45 = .ok (.iload_n 1, 1) := by decide +kernel
theorem dX5_leave_46 : decode cX5_leave 46 = .ok (.iconst 3, 1) := by decide +kernel
theorem dX5_leave_47 : decode cX5_leave 47 = .ok (.aload_n 0, 1) := by decide +kernel
theorem dX5_leave_48 : decode cX5_leave 48 = .ok (.iload_n 1, 1) := by decide +kernel
theorem dX5_leave_49 : decode cX5_leave 49 = .ok (.iconst 3, 1) := by decide +kernel
theorem dX5_leave_50 : decode cX5_leave 50 = .ok (.invokevirtual 40, 3) := by decide +kernel
theorem dX5_leave_53 : decode cX5_leave 53 = .ok (.iconst 1, 1) := by decide +kernel
theorem dX5_leave_54 : decode cX5_leave 54 = .ok (.iload_n 2, 1) := by decide +kernel
theorem dX5_leave_55 : decode cX5_leave 55 = .ok (.ishl, 1) := by decide +kernel
theorem dX5_leave_56 : decode cX5_leave 56 = .ok (.iconst (-1), 1) := by decide +kernel
theorem dX5_leave_57 : decode cX5_leave 57 = .ok (.ixor, 1) := by decide +kernel
theorem dX5_leave_58 : decode cX5_leave 58 = .ok (.iand, 1) := by decide +kernel
theorem dX5_leave_59 : decode cX5_leave 59 = .ok (.invokevirtual 78, 3) := by decide +kernel
theorem dX5_leave_62 : decode cX5_leave 62 = .ok (.aload_n 0, 1) := by decide +kernel
theorem dX5_leave_63 : decode cX5_leave 63 = .ok (.invokevirtual 116, 3) := by decide +kernel
theorem dX5_leave_66 : decode cX5_leave 66 = .ok (.ireturn, 1) := by decide +kernel
set_option maxRecDepth 20000 in
theorem ggX5_inWayOf_X5_isTaken : GoodIn wsX5_inWayOf wsX5_isTaken := goodIn_r _ [5, 6, 7, 8, 4, 9, 10, 46, 47, 48, 49, 50, 51, 52, 53, 54, 55, 56, 57] (by decide +kernel) (by decide +kernel)
set_option maxRecDepth 20000 in
theorem gX5_inWayOf_X5_isTaken : GoodIn wsX5_inWayOf (wsV RX5 58 RX5 yX5_isTaken wsX5_isTaken) := goodIn_app (goodIn_of _ (by decide +kernel)) ggX5_inWayOf_X5_isTaken
set_option maxRecDepth 20000 in
theorem ggX5_inWayOf_X5_inWay : GoodIn wsX5_inWayOf wsX5_inWay := goodIn_r _ [14, 15, 16, 17, 4, 18, 6, 7, 8, 9, 10, 1, 2, 3, 5, 19, 20, 21, 22, 23, 24, 25, 26, 27, 28, 29, 30, 31, 32, 33, 34, 35, 36, 37, 38, 39, 40, 41, 42, 43, 44, 45, 46, 47, 48, 49, 50, 51, 52, 53, 54, 55, 56, 57] (by decide +kernel) (by decide +kernel)
set_option maxRecDepth 20000 in
theorem gX5_inWayOf_X5_inWay : GoodIn wsX5_inWayOf (wsV RX5 75 RX5 yX5_inWay wsX5_inWay) := goodIn_app (goodIn_of _ (by decide +kernel)) ggX5_inWayOf_X5_inWay
theorem dX5_inWayOf_0 : decode cX5_inWayOf 0 = .ok (.iconst 0, 1) := by decide +kernel
theorem dX5_inWayOf_1 : decode cX5_inWayOf 1 = .ok (.istore 4, 2) := by decide +kernel
theorem dX5_inWayOf_3 : decode cX5_inWayOf 3 = .ok (.iload_n 2, 1) := by decide +kernel
theorem dX5_inWayOf_4 : decode cX5_inWayOf 4 = .ok (.istore 5, 2) := by decide +kernel
theorem dX5_inWayOf_6 : decode cX5_inWayOf 6 = .ok (.iload 5, 2) := by decide +kernel
theorem dX5_inWayOf_8 : decode cX5_inWayOf 8 = .ok (.iload_n 2, 1) := by decide +kernel
theorem dX5_inWayOf_9 : decode cX5_inWayOf 9 = .ok (.iload_n 3, 1) := by decide +kernel
theorem dX5_inWayOf_10 : decode cX5_inWayOf 10 = .ok (.iadd, 1) := by decide +kernel
theorem dX5_inWayOf_11 : decode cX5_inWayOf 11 = .ok (.if_icmp .ge 33, 3) := by decide +kernel
theorem dX5_inWayOf_14 : decode cX5_inWayOf 14 = .ok (.aload_n 0, 1) := by decide +kernel
theorem dX5_inWayOf_15 : decode cX5_inWayOf 15 = .ok (.iload_n 1, 1) := by decide +kernel
theorem dX5_inWayOf_16 : decode cX5_inWayOf 16 = .ok (.iload 5, 2) := by decide +kernel
theorem dX5_inWayOf_18 : decode cX5_inWayOf 18 = .ok (.invokevirtual 58, 3) := by decide +kernel
theorem dX5_inWayOf_21 : decode cX5_inWayOf 21 = .ok (.ifCond .eq 5, 3) := by decide +kernel
theorem dX5_inWayOf_24 : decode cX5_inWayOf 24 = .ok (.iconst (-1), 1) := by decide +kernel
theorem dX5_inWayOf_25 : decode cX5_inWayOf 25 = .ok (.ireturn, 1) := by decide +kernel
theorem dX5_inWayOf_26 : decode cX5_inWayOf 26 = .ok (.iload 4, 2) := by decide +kernel
theorem dX5_inWayOf_28 : decode cX5_inWayOf 28 = .ok (.aload_n 0, 1) := by decide +kernel
theorem dX5_inWayOf_29 : decode cX5_inWayOf 29 = .ok (.iload_n 1, 1) := by decide +kernel
theorem dX5_inWayOf_30 : decode cX5_inWayOf 30 = .ok (.iload 5, 2) := by decide +kernel
theorem dX5_inWayOf_32 : decode cX5_inWayOf 32 = .ok (.invokevirtual 75, 3) := by decide +kernel
theorem dX5_inWayOf_35 : decode cX5_inWayOf 35 = .ok (.iadd, 1) := by decide +kernel
theorem dX5_inWayOf_36 : decode cX5_inWayOf 36 = .ok (.istore 4, 2) := by decide +kernel
theorem dX5_inWayOf_38 : decode cX5_inWayOf 38 = .ok (.iinc 5 1, 3) := by decide +kernel
theorem dX5_inWayOf_41 : decode cX5_inWayOf 41 = .ok (.goto (-35), 3) := by decide +kernel
theorem dX5_inWayOf_44 : decode cX5_inWayOf 44 = .ok (.iload 4, 2) := by decide +kernel
theorem dX5_inWayOf_46 : decode cX5_inWayOf 46 = .ok (.ireturn, 1) := by decide +kernel
set_option maxRecDepth 20000 in
theorem ggX5_placeFor_X5_of : GoodIn wsX5_placeFor wsX5_of := goodIn_r _ [6, 1, 50, 51, 52, 53, 54, 55, 56, 57, 58, 59, 60, 61] (by decide +kernel) (by decide +kernel)
set_option maxRecDepth 20000 in
theorem gX5_placeFor_X5_of : GoodIn wsX5_placeFor (wsV RX5 40 RX5 yX5_of wsX5_of) := goodIn_app (goodIn_of _ (by decide +kernel)) ggX5_placeFor_X5_of
set_option maxRecDepth 20000 in
theorem ggX5_placeFor_X5_inWayOf : GoodIn wsX5_placeFor wsX5_inWayOf := goodIn_r _ [10, 11, 12, 13, 5, 14, 2, 3, 4, 6, 1, 15, 16, 17, 18, 19, 20, 21, 22, 23, 24, 25, 26, 27, 28, 29, 30, 31, 32, 33, 34, 35, 36, 37, 38, 39, 40, 41, 42, 43, 44, 45, 46, 47, 48, 49, 50, 51, 52, 53, 54, 55, 56, 57, 58, 59, 60, 61] (by decide +kernel) (by decide +kernel)
set_option maxRecDepth 20000 in
theorem gX5_placeFor_X5_inWayOf : GoodIn wsX5_placeFor (wsV RX5 119 RX5 yX5_inWayOf wsX5_inWayOf) := goodIn_app (goodIn_of _ (by decide +kernel)) ggX5_placeFor_X5_inWayOf
theorem dX5_placeFor_0 : decode cX5_placeFor 0 = .ok (.iconst (-1), 1) := by decide +kernel
theorem dX5_placeFor_1 : decode cX5_placeFor 1 = .ok (.istore_n 2, 1) := by decide +kernel
theorem dX5_placeFor_2 : decode cX5_placeFor 2 = .ok (.iconst 0, 1) := by decide +kernel
theorem dX5_placeFor_3 : decode cX5_placeFor 3 = .ok (.istore_n 3, 1) := by decide +kernel
theorem dX5_placeFor_4 : decode cX5_placeFor 4 = .ok (.iconst 0, 1) := by decide +kernel
theorem dX5_placeFor_5 : decode cX5_placeFor 5 = .ok (.istore 4, 2) := by decide +kernel
theorem dX5_placeFor_7 : decode cX5_placeFor 7 = .ok (.iload 4, 2) := by decide +kernel
theorem dX5_placeFor_9 : decode cX5_placeFor 9 = .ok (.aload_n 0, 1) := by decide +kernel
theorem dX5_placeFor_10 : decode cX5_placeFor 10 = .ok (.getfield 7, 3) := by decide +kernel
theorem dX5_placeFor_13 : decode cX5_placeFor 13 = .ok (.iconst 3, 1) := by decide +kernel
theorem dX5_placeFor_14 : decode cX5_placeFor 14 = .ok (.iaload, 1) := by decide +kernel
theorem dX5_placeFor_15 : decode cX5_placeFor 15 = .ok (.if_icmp .ge 97, 3) := by decide +kernel
theorem dX5_placeFor_18 : decode cX5_placeFor 18 = .ok (.iconst 0, 1) := by decide +kernel
theorem dX5_placeFor_19 : decode cX5_placeFor 19 = .ok (.istore 5, 2) := by decide +kernel
theorem dX5_placeFor_21 : decode cX5_placeFor 21 = .ok (.iload 5, 2) := by decide +kernel
theorem dX5_placeFor_23 : decode cX5_placeFor 23 = .ok (.iload_n 1, 1) := by decide +kernel
theorem dX5_placeFor_24 : decode cX5_placeFor 24 = .ok (.iadd, 1) := by decide +kernel
theorem dX5_placeFor_25 : decode cX5_placeFor 25 = .ok (.aload_n 0, 1) := by decide +kernel
theorem dX5_placeFor_26 : decode cX5_placeFor 26 = .ok (.iload 4, 2) := by decide +kernel
theorem dX5_placeFor_28 : decode cX5_placeFor 28 = .ok (.iconst 2, 1) := by decide +kernel
theorem dX5_placeFor_29 : decode cX5_placeFor 29 = .ok (.invokevirtual 40, 3) := by decide +kernel
theorem dX5_placeFor_32 : decode cX5_placeFor 32 = .ok (.if_icmp .gt 74, 3) := by decide +kernel
theorem dX5_placeFor_35 : decode cX5_placeFor 35 = .ok (.aload_n 0, 1) := by decide +kernel
theorem dX5_placeFor_36 : decode cX5_placeFor 36 = .ok (.iload 4, 2) := by decide +kernel
theorem dX5_placeFor_38 : decode cX5_placeFor 38 = .ok (.iload 5, 2) := by decide +kernel
theorem dX5_placeFor_40 : decode cX5_placeFor 40 = .ok (.iload_n 1, 1) := by decide +kernel
theorem dX5_placeFor_41 : decode cX5_placeFor 41 = .ok (.invokevirtual 119, 3) := by decide +kernel
theorem dX5_placeFor_44 : decode cX5_placeFor 44 = .ok (.istore 6, 2) := by decide +kernel
theorem dX5_placeFor_46 : decode cX5_placeFor 46 = .ok (.iload 6, 2) := by decide +kernel
theorem dX5_placeFor_48 : decode cX5_placeFor 48 = .ok (.iconst (-1), 1) := by decide +kernel
theorem dX5_placeFor_49 : decode cX5_placeFor 49 = .ok (.if_icmp .eq 18, 3) := by decide +kernel
theorem dX5_placeFor_52 : decode cX5_placeFor 52 = .ok (.iload_n 2, 1) := by decide +kernel
theorem dX5_placeFor_53 : decode cX5_placeFor 53 = .ok (.iconst (-1), 1) := by decide +kernel
theorem dX5_placeFor_54 : decode cX5_placeFor 54 = .ok (.if_icmp .eq 9, 3) := by decide +kernel
theorem dX5_placeFor_57 : decode cX5_placeFor 57 = .ok (.iload 6, 2) := by decide +kernel
theorem dX5_placeFor_59 : decode cX5_placeFor 59 = .ok (.iload_n 3, 1) := by decide +kernel
theorem dX5_placeFor_60 : decode cX5_placeFor 60 = .ok (.if_icmp .ge 7, 3) := by decide +kernel
theorem dX5_placeFor_63 : decode cX5_placeFor 63 = .ok (.iconst 1, 1) := by decide +kernel
theorem dX5_placeFor_64 : decode cX5_placeFor 64 = .ok (.goto 4, 3) := by decide +kernel
theorem dX5_placeFor_67 : decode cX5_placeFor 67 = .ok (.iconst 0, 1) := by decide +kernel
theorem dX5_placeFor_68 : decode cX5_placeFor 68 = .ok (.istore 7, 2) := by decide +kernel
theorem dX5_placeFor_70 : decode cX5_placeFor 70 = .ok (.iload 7, 2) := by decide +kernel
theorem dX5_placeFor_72 : decode cX5_placeFor 72 = .ok (.ifCond .eq 14, 3) := by decide +kernel
theorem dX5_placeFor_75 : decode cX5_placeFor 75 = .ok (.bipush 100, 2) := by decide +kernel
theorem dX5_placeFor_77 : decode cX5_placeFor 77 = .ok (.iload 4, 2) := by decide +kernel
theorem dX5_placeFor_79 : decode cX5_placeFor 79 = .ok (.imul, 1) := by decide +kernel
theorem dX5_placeFor_80 : decode cX5_placeFor 80 = .ok (.iload 5, 2) := by decide +kernel
theorem dX5_placeFor_82 : decode cX5_placeFor 82 = .ok (.iadd, 1) := by decide +kernel
theorem dX5_placeFor_83 : decode cX5_placeFor 83 = .ok (.goto 4, 3) := by decide +kernel
theorem dX5_placeFor_86 : decode cX5_placeFor 86 = .ok (.iload_n 2, 1) := by decide +kernel
theorem dX5_placeFor_87 : decode cX5_placeFor 87 = .ok (.istore_n 2, 1) := by decide +kernel
theorem dX5_placeFor_88 : decode cX5_placeFor 88 = .ok (.iload 7, 2) := by decide +kernel
theorem dX5_placeFor_90 : decode cX5_placeFor 90 = .ok (.ifCond .eq 8, 3) := by decide +kernel
theorem dX5_placeFor_93 : decode cX5_placeFor 93 = .ok (.iload 6, 2) := by decide +kernel
theorem dX5_placeFor_95 : decode cX5_placeFor 95 = .ok (.goto 4, 3) := by decide +kernel
theorem dX5_placeFor_98 : decode cX5_placeFor 98 = .ok (.iload_n 3, 1) := by decide +kernel
theorem dX5_placeFor_99 : decode cX5_placeFor 99 = .ok (.istore_n 3, 1) := by decide +kernel
theorem dX5_placeFor_100 : decode cX5_placeFor 100 = .ok (.iinc 5 1, 3) := by decide +kernel
theorem dX5_placeFor_103 : decode cX5_placeFor 103 = .ok (.goto (-82), 3) := by decide +kernel
theorem dX5_placeFor_106 : decode cX5_placeFor 106 = .ok (.iinc 4 1, 3) := by decide +kernel
theorem dX5_placeFor_109 : decode cX5_placeFor 109 = .ok (.goto (-102), 3) := by decide +kernel
theorem dX5_placeFor_112 : decode cX5_placeFor 112 = .ok (.iload_n 2, 1) := by decide +kernel
theorem dX5_placeFor_113 : decode cX5_placeFor 113 = .ok (.ireturn, 1) := by decide +kernel
set_option maxRecDepth 20000 in
theorem ggX5_seatParty_X5_within : GoodIn wsX5_seatParty wsX5_within := goodIn_r _ [5] (by decide +kernel) (by decide +kernel)
set_option maxRecDepth 20000 in
theorem gX5_seatParty_X5_within : GoodIn wsX5_seatParty (va_wsS RX5 32 yX5_within wsX5_within) := goodIn_app (goodIn_of _ (by decide +kernel)) ggX5_seatParty_X5_within
set_option maxRecDepth 20000 in
theorem ggX5_seatParty_X5_placeFor : GoodIn wsX5_seatParty wsX5_placeFor := goodIn_r _ [9, 10, 11, 12, 13, 4, 14, 15, 16, 17, 18, 19, 20, 21, 22, 23, 24, 25, 26, 27, 28, 29, 30, 31, 32, 33, 34, 35, 36, 37, 38, 39, 40, 41, 42, 43, 44, 45, 46, 47, 48, 49, 50, 51, 52, 53, 54, 55, 56, 57, 68, 69, 70, 71, 72, 73, 74, 75, 76, 77, 78, 79] (by decide +kernel) (by decide +kernel)
set_option maxRecDepth 20000 in
theorem gX5_seatParty_X5_placeFor : GoodIn wsX5_seatParty (wsV RX5 122 RX5 yX5_placeFor wsX5_placeFor) := goodIn_app (goodIn_of _ (by decide +kernel)) ggX5_seatParty_X5_placeFor
set_option maxRecDepth 20000 in
theorem ggX5_seatParty_X5_save : GoodIn wsX5_seatParty wsX5_save := goodIn_r _ [61, 62, 63, 10, 68, 69, 70, 71, 72, 73, 74, 75, 76, 77, 78, 79] (by decide +kernel) (by decide +kernel)
set_option maxRecDepth 20000 in
theorem gX5_seatParty_X5_save : GoodIn wsX5_seatParty (wsV RX5 91 RX5 yX5_save wsX5_save) := goodIn_app (goodIn_of _ (by decide +kernel)) ggX5_seatParty_X5_save
set_option maxRecDepth 20000 in
theorem ggX5_seatParty_X5_of : GoodIn wsX5_seatParty wsX5_of := goodIn_r _ [14, 10, 68, 69, 70, 71, 72, 73, 74, 75, 76, 77, 78, 79] (by decide +kernel) (by decide +kernel)
set_option maxRecDepth 20000 in
theorem gX5_seatParty_X5_of : GoodIn wsX5_seatParty (wsV RX5 40 RX5 yX5_of wsX5_of) := goodIn_app (goodIn_of _ (by decide +kernel)) ggX5_seatParty_X5_of
set_option maxRecDepth 20000 in
theorem ggX5_seatParty_X5_put : GoodIn wsX5_seatParty wsX5_put := goodIn_r _ [67, 10, 68, 69, 70, 71, 72, 73, 74, 75, 76, 77, 78, 79] (by decide +kernel) (by decide +kernel)
set_option maxRecDepth 20000 in
theorem gX5_seatParty_X5_put : GoodIn wsX5_seatParty (wsV RX5 78 RX5 yX5_put wsX5_put) := goodIn_app (goodIn_of _ (by decide +kernel)) ggX5_seatParty_X5_put
theorem dX5_seatParty_0 : decode cX5_seatParty 0 = .ok (.aload_n 0, 1) := by decide +kernel
theorem dX5_seatParty_1 : decode cX5_seatParty 1 = .ok (.iload_n 1, 1) := by decide +kernel
theorem dX5_seatParty_2 : decode cX5_seatParty 2 = .ok (.iconst 1, 1) := by decide +kernel
theorem dX5_seatParty_3 : decode cX5_seatParty 3 = .ok (.bipush 12, 2) := by decide +kernel
theorem dX5_seatParty_5 : decode cX5_seatParty 5 = .ok (.invokestatic 32, 3) := by decide +kernel
theorem dX5_seatParty_8 : decode cX5_seatParty 8 = .ok (.ifCond .eq 7, 3) := by decide +kernel
theorem dX5_seatParty_11 : decode cX5_seatParty 11 = .ok (.iconst 0, 1) := by decide +kernel
theorem dX5_seatParty_12 : decode cX5_seatParty 12 = .ok (.goto 4, 3) := by decide +kernel
theorem dX5_seatParty_15 : decode cX5_seatParty 15 = .ok (.iconst 1, 1) := by decide +kernel
theorem dX5_seatParty_16 : decode cX5_seatParty 16 = .ok (.putfield 25, 3) := by decide +kernel
theorem dX5_seatParty_19 : decode cX5_seatParty 19 = .ok (.aload_n 0, 1) := by decide +kernel
theorem dX5_seatParty_20 : decode cX5_seatParty 20 = .ok (.getfield 25, 3) := by decide +kernel
theorem dX5_seatParty_23 : decode cX5_seatParty 23 = .ok (.ifCond .le 7, 3) := by decide +kernel
theorem dX5_seatParty_26 : decode cX5_seatParty 26 = .ok (.iconst (-1), 1) := by decide +kernel
theorem dX5_seatParty_27 : decode cX5_seatParty 27 = .ok (.goto 8, 3) := by decide +kernel
theorem dX5_seatParty_30 : decode cX5_seatParty 30 = .ok (.aload_n 0, 1) := by decide +kernel
theorem dX5_seatParty_31 : decode cX5_seatParty 31 = .ok (.iload_n 1, 1) := by decide +kernel
theorem dX5_seatParty_32 : decode cX5_seatParty 32 = .ok (.invokevirtual 122, 3) := by decide +kernel
theorem dX5_seatParty_35 : decode cX5_seatParty 35 = .ok (.istore_n 2, 1) := by decide +kernel
theorem dX5_seatParty_36 : decode cX5_seatParty 36 = .ok (.aload_n 0, 1) := by decide +kernel
theorem dX5_seatParty_37 : decode cX5_seatParty 37 = .ok (.aload_n 0, 1) := by decide +kernel
theorem dX5_seatParty_38 : decode cX5_seatParty 38 = .ok (.getfield 25, 3) := by decide +kernel
theorem dX5_seatParty_41 : decode cX5_seatParty 41 = .ok (.ifCond .le 10, 3) := by decide +kernel
theorem dX5_seatParty_44 : decode cX5_seatParty 44 = .ok (.aload_n 0, 1) := by decide +kernel
theorem dX5_seatParty_45 : decode cX5_seatParty 45 = .ok (.getfield 25, 3) := by decide +kernel
theorem dX5_seatParty_48 : decode cX5_seatParty 48 = .ok (.goto 13, 3) := by decide +kernel
theorem dX5_seatParty_51 : decode cX5_seatParty 51 = .ok (.iload_n 2, 1) := by decide +kernel
theorem dX5_seatParty_52 : decode cX5_seatParty 52 = .ok (.iconst (-1), 1) := by decide +kernel
theorem dX5_seatParty_53 : decode cX5_seatParty 53 = .ok (.if_icmp .ne 7, 3) := by decide +kernel
theorem dX5_seatParty_56 : decode cX5_seatParty 56 = .ok (.iconst 2, 1) := by decide +kernel
theorem dX5_seatParty_57 : decode cX5_seatParty 57 = .ok (.goto 4, 3) := by decide +kernel
theorem dX5_seatParty_60 : decode cX5_seatParty 60 = .ok (.iconst 0, 1) := by decide +kernel
theorem dX5_seatParty_61 : decode cX5_seatParty 61 = .ok (.putfield 25, 3) := by decide +kernel
theorem dX5_seatParty_64 : decode cX5_seatParty 64 = .ok (.aload_n 0, 1) := by decide +kernel
theorem dX5_seatParty_65 : decode cX5_seatParty 65 = .ok (.getfield 25, 3) := by decide +kernel
theorem dX5_seatParty_68 : decode cX5_seatParty 68 = .ok (.ifCond .le 5, 3) := by decide +kernel
theorem dX5_seatParty_71 : decode cX5_seatParty 71 = .ok (.iconst 0, 1) := by decide +kernel
theorem dX5_seatParty_72 : decode cX5_seatParty 72 = .ok (.ireturn, 1) := by decide +kernel
theorem dX5_seatParty_73 : decode cX5_seatParty 73 = .ok (.aload_n 0, 1) := by decide +kernel
theorem dX5_seatParty_74 : decode cX5_seatParty 74 = .ok (.invokevirtual 91, 3) := by decide +kernel
theorem dX5_seatParty_77 : decode cX5_seatParty 77 = .ok (.iconst 0, 1) := by decide +kernel
theorem dX5_seatParty_78 : decode cX5_seatParty 78 = .ok (.istore_n 3, 1) := by decide +kernel
theorem dX5_seatParty_79 : decode cX5_seatParty 79 = .ok (.iload_n 3, 1) := by decide +kernel
theorem dX5_seatParty_80 : decode cX5_seatParty 80 = .ok (.iload_n 1, 1) := by decide +kernel
theorem dX5_seatParty_81 : decode cX5_seatParty 81 = .ok (.if_icmp .ge 36, 3) := by decide +kernel
theorem dX5_seatParty_84 : decode cX5_seatParty 84 = .ok (.aload_n 0, 1) := by decide +kernel
theorem dX5_seatParty_85 : decode cX5_seatParty 85 = .ok (.iload_n 2, 1) := by decide +kernel
theorem dX5_seatParty_86 : decode cX5_seatParty 86 = .ok (.bipush 100, 2) := by decide +kernel
theorem dX5_seatParty_88 : decode cX5_seatParty 88 = .ok (.idiv, 1) := by decide +kernel
theorem dX5_seatParty_89 : decode cX5_seatParty 89 = .ok (.iconst 3, 1) := by decide +kernel
theorem dX5_seatParty_90 : decode cX5_seatParty 90 = .ok (.aload_n 0, 1) := by decide +kernel
theorem dX5_seatParty_91 : decode cX5_seatParty 91 = .ok (.iload_n 2, 1) := by decide +kernel
theorem dX5_seatParty_92 : decode cX5_seatParty 92 = .ok (.bipush 100, 2) := by decide +kernel
theorem dX5_seatParty_94 : decode cX5_seatParty 94 = .ok (.idiv, 1) := by decide +kernel
theorem dX5_seatParty_95 : decode cX5_seatParty 95 = .ok (.iconst 3, 1) := by decide +kernel
theorem dX5_seatParty_96 : decode cX5_seatParty 96 = .ok (.invokevirtual 40, 3) := by decide +kernel
theorem dX5_seatParty_99 : decode cX5_seatParty 99 = .ok (.iconst 1, 1) := by decide +kernel
theorem dX5_seatParty_100 : decode cX5_seatParty 100 = .ok (.iload_n 2, 1) := by decide +kernel
theorem dX5_seatParty_101 : decode cX5_seatParty 101 = .ok (.bipush 100, 2) := by decide +kernel
theorem dX5_seatParty_103 : decode cX5_seatParty 103 = .ok (.irem, 1) := by decide +kernel
theorem dX5_seatParty_104 : decode cX5_seatParty 104 = .ok (.iload_n 3, 1) := by decide +kernel
theorem dX5_seatParty_105 : decode cX5_seatParty 105 = .ok (.iadd, 1) := by decide +kernel
theorem dX5_seatParty_106 : decode cX5_seatParty 106 = .ok (.ishl, 1) := by decide +kernel
theorem dX5_seatParty_107 : decode cX5_seatParty 107 = .ok (.ior, 1) := by decide +kernel
theorem dX5_seatParty_108 : decode cX5_seatParty 108 = .ok (.invokevirtual 78, 3) := by decide +kernel
theorem dX5_seatParty_111 : decode cX5_seatParty 111 = .ok (.iinc 3 1, 3) := by decide +kernel
theorem dX5_seatParty_114 : decode cX5_seatParty 114 = .ok (.goto (-35), 3) := by decide +kernel
theorem dX5_seatParty_117 : decode cX5_seatParty 117 = .ok (.iload_n 2, 1) := by decide +kernel
theorem dX5_seatParty_118 : decode cX5_seatParty 118 = .ok (.ireturn, 1) := by decide +kernel
set_option maxRecDepth 20000 in
theorem ggX5_clear_X5_save : GoodIn wsX5_clear wsX5_save := goodIn_r _ [7, 8, 9, 2, 30, 31, 32, 33, 34, 35, 36, 37, 38, 39, 40, 41] (by decide +kernel) (by decide +kernel)
set_option maxRecDepth 20000 in
theorem gX5_clear_X5_save : GoodIn wsX5_clear (wsV RX5 91 RX5 yX5_save wsX5_save) := goodIn_app (goodIn_of _ (by decide +kernel)) ggX5_clear_X5_save
set_option maxRecDepth 20000 in
theorem ggX5_clear_X5_allTaken : GoodIn wsX5_clear wsX5_allTaken := goodIn_r _ [13, 2, 14, 15, 16, 6, 17, 18, 19, 20, 21, 22, 23, 24, 25, 30, 31, 32, 33, 34, 35, 36, 37, 38, 39, 40, 41] (by decide +kernel) (by decide +kernel)
set_option maxRecDepth 20000 in
theorem gX5_clear_X5_allTaken : GoodIn wsX5_clear (wsV RX5 116 RX5 yX5_allTaken wsX5_allTaken) := goodIn_app (goodIn_of _ (by decide +kernel)) ggX5_clear_X5_allTaken
set_option maxRecDepth 20000 in
theorem ggX5_clear_X5_put : GoodIn wsX5_clear wsX5_put := goodIn_r _ [29, 2, 30, 31, 32, 33, 34, 35, 36, 37, 38, 39, 40, 41] (by decide +kernel) (by decide +kernel)
set_option maxRecDepth 20000 in
theorem gX5_clear_X5_put : GoodIn wsX5_clear (wsV RX5 78 RX5 yX5_put wsX5_put) := goodIn_app (goodIn_of _ (by decide +kernel)) ggX5_clear_X5_put
theorem dX5_clear_0 : decode cX5_clear 0 = .ok (.aload_n 0, 1) := by decide +kernel
theorem dX5_clear_1 : decode cX5_clear 1 = .ok (.iconst 0, 1) := by decide +kernel
theorem dX5_clear_2 : decode cX5_clear 2 = .ok (.putfield 25, 3) := by decide +kernel
theorem dX5_clear_5 : decode cX5_clear 5 = .ok (.aload_n 0, 1) := by decide +kernel
theorem dX5_clear_6 : decode cX5_clear 6 = .ok (.invokevirtual 91, 3) := by decide +kernel
theorem dX5_clear_9 : decode cX5_clear 9 = .ok (.aload_n 0, 1) := by decide +kernel
theorem dX5_clear_10 : decode cX5_clear 10 = .ok (.invokevirtual 116, 3) := by decide +kernel
theorem dX5_clear_13 : decode cX5_clear 13 = .ok (.istore_n 1, 1) := by decide +kernel
theorem dX5_clear_14 : decode cX5_clear 14 = .ok (.iconst 0, 1) := by decide +kernel
theorem dX5_clear_15 : decode cX5_clear 15 = .ok (.istore_n 2, 1) := by decide +kernel
theorem dX5_clear_16 : decode cX5_clear 16 = .ok (.iload_n 2, 1) := by decide +kernel
theorem dX5_clear_17 : decode cX5_clear 17 = .ok (.aload_n 0, 1) := by decide +kernel
theorem dX5_clear_18 : decode cX5_clear 18 = .ok (.getfield 7, 3) := by decide +kernel
theorem dX5_clear_21 : decode cX5_clear 21 = .ok (.iconst 3, 1) := by decide +kernel
theorem dX5_clear_22 : decode cX5_clear 22 = .ok (.iaload, 1) := by decide +kernel
theorem dX5_clear_23 : decode cX5_clear 23 = .ok (.if_icmp .ge 16, 3) := by decide +kernel
theorem dX5_clear_26 : decode cX5_clear 26 = .ok (.aload_n 0, 1) := by decide +kernel
theorem dX5_clear_27 : decode cX5_clear 27 = .ok (.iload_n 2, 1) := by decide +kernel
theorem dX5_clear_28 : decode cX5_clear 28 = .ok (.iconst 3, 1) := by decide +kernel
theorem dX5_clear_29 : decode cX5_clear 29 = .ok (.iconst 0, 1) := by decide +kernel
theorem dX5_clear_30 : decode cX5_clear 30 = .ok (.invokevirtual 78, 3) := by decide +kernel
theorem dX5_clear_33 : decode cX5_clear 33 = .ok (.iinc 2 1, 3) := by decide +kernel
theorem dX5_clear_36 : decode cX5_clear 36 = .ok (.goto (-20), 3) := by decide +kernel
theorem dX5_clear_39 : decode cX5_clear 39 = .ok (.iload_n 1, 1) := by decide +kernel
theorem dX5_clear_40 : decode cX5_clear 40 = .ok (.ireturn, 1) := by decide +kernel
theorem dX5_upwards_0 : decode cX5_upwards 0 = .ok (.iload_n 0, 1) := by decide +kernel
theorem dX5_upwards_1 : decode cX5_upwards 1 = .ok (.ifCond .le 13, 3) := by decide +kernel
theorem dX5_upwards_4 : decode cX5_upwards 4 = .ok (.iload_n 0, 1) := by decide +kernel
theorem dX5_upwards_5 : decode cX5_upwards 5 = .ok (.iload_n 1, 1) := by decide +kernel
theorem dX5_upwards_6 : decode cX5_upwards 6 = .ok (.iadd, 1) := by decide +kernel
theorem dX5_upwards_7 : decode cX5_upwards 7 = .ok (.iconst 1, 1) := by decide +kernel
theorem dX5_upwards_8 : decode cX5_upwards 8 = .ok (.isub, 1) := by decide +kernel
theorem dX5_upwards_9 : decode cX5_upwards 9 = .ok (.iload_n 1, 1) := by decide +kernel
theorem dX5_upwards_10 : decode cX5_upwards 10 = .ok (.idiv, 1) := by decide +kernel
theorem dX5_upwards_11 : decode cX5_upwards 11 = .ok (.goto 8, 3) := by decide +kernel
theorem dX5_upwards_14 : decode cX5_upwards 14 = .ok (.iload_n 0, 1) := by decide +kernel
theorem dX5_upwards_15 : decode cX5_upwards 15 = .ok (.ineg, 1) := by decide +kernel
theorem dX5_upwards_16 : decode cX5_upwards 16 = .ok (.iload_n 1, 1) := by decide +kernel
theorem dX5_upwards_17 : decode cX5_upwards 17 = .ok (.idiv, 1) := by decide +kernel
theorem dX5_upwards_18 : decode cX5_upwards 18 = .ok (.ineg, 1) := by decide +kernel
theorem dX5_upwards_19 : decode cX5_upwards 19 = .ok (.ireturn, 1) := by decide +kernel
set_option maxRecDepth 20000 in
theorem ggX5_leastFor_X5_of : GoodIn wsX5_leastFor wsX5_of := goodIn_r _ [6, 1, 10, 11, 12, 13, 14, 15, 16, 17, 18, 19, 20, 21] (by decide +kernel) (by decide +kernel)
set_option maxRecDepth 20000 in
theorem gX5_leastFor_X5_of : GoodIn wsX5_leastFor (wsV RX5 40 RX5 yX5_of wsX5_of) := goodIn_app (goodIn_of _ (by decide +kernel)) ggX5_leastFor_X5_of
set_option maxRecDepth 20000 in
theorem ggX5_leastFor_X5_upwards : GoodIn wsX5_leastFor wsX5_upwards := goodIn_r _ [9] (by decide +kernel) (by decide +kernel)
set_option maxRecDepth 20000 in
theorem gX5_leastFor_X5_upwards : GoodIn wsX5_leastFor (va_wsS RX5 125 yX5_upwards wsX5_upwards) := goodIn_app (goodIn_of _ (by decide +kernel)) ggX5_leastFor_X5_upwards
theorem dX5_leastFor_0 : decode cX5_leastFor 0 = .ok (.iconst 0, 1) := by decide +kernel
theorem dX5_leastFor_1 : decode cX5_leastFor 1 = .ok (.istore_n 2, 1) := by decide +kernel
theorem dX5_leastFor_2 : decode cX5_leastFor 2 = .ok (.iconst 0, 1) := by decide +kernel
theorem dX5_leastFor_3 : decode cX5_leastFor 3 = .ok (.istore_n 3, 1) := by decide +kernel
theorem dX5_leastFor_4 : decode cX5_leastFor 4 = .ok (.iload_n 3, 1) := by decide +kernel
theorem dX5_leastFor_5 : decode cX5_leastFor 5 = .ok (.iload_n 1, 1) := by decide +kernel
theorem dX5_leastFor_6 : decode cX5_leastFor 6 = .ok (.if_icmp .ge 85, 3) := by decide +kernel
theorem dX5_leastFor_9 : decode cX5_leastFor 9 = .ok (.aload_n 0, 1) := by decide +kernel
theorem dX5_leastFor_10 : decode cX5_leastFor 10 = .ok (.iload_n 3, 1) := by decide +kernel
theorem dX5_leastFor_11 : decode cX5_leastFor 11 = .ok (.iconst 1, 1) := by decide +kernel
theorem dX5_leastFor_12 : decode cX5_leastFor 12 = .ok (.invokevirtual 40, 3) := by decide +kernel
theorem dX5_leastFor_15 : decode cX5_leastFor 15 = .ok (.aload_n 0, 1) := by decide +kernel
theorem dX5_leastFor_16 : decode cX5_leastFor 16 = .ok (.getfield 7, 3) := by decide +kernel
theorem dX5_leastFor_19 : decode cX5_leastFor 19 = .ok (.iconst 1, 1) := by decide +kernel
theorem dX5_leastFor_20 : decode cX5_leastFor 20 = .ok (.iaload, 1) := by decide +kernel
theorem dX5_leastFor_21 : decode cX5_leastFor 21 = .ok (.iadd, 1) := by decide +kernel
theorem dX5_leastFor_22 : decode cX5_leastFor 22 = .ok (.aload_n 0, 1) := by decide +kernel
theorem dX5_leastFor_23 : decode cX5_leastFor 23 = .ok (.getfield 7, 3) := by decide +kernel
theorem dX5_leastFor_26 : decode cX5_leastFor 26 = .ok (.iconst 2, 1) := by decide +kernel
theorem dX5_leastFor_27 : decode cX5_leastFor 27 = .ok (.iaload, 1) := by decide +kernel
theorem dX5_leastFor_28 : decode cX5_leastFor 28 = .ok (.iadd, 1) := by decide +kernel
theorem dX5_leastFor_29 : decode cX5_leastFor 29 = .ok (.aload_n 0, 1) := by decide +kernel
theorem dX5_leastFor_30 : decode cX5_leastFor 30 = .ok (.getfield 7, 3) := by decide +kernel
theorem dX5_leastFor_33 : decode cX5_leastFor 33 = .ok (.iconst 0, 1) := by decide +kernel
theorem dX5_leastFor_34 : decode cX5_leastFor 34 = .ok (.iaload, 1) := by decide +kernel
theorem dX5_leastFor_35 : decode cX5_leastFor 35 = .ok (.isub, 1) := by decide +kernel
theorem dX5_leastFor_36 : decode cX5_leastFor 36 = .ok (.istore 4, 2) := by decide +kernel
theorem dX5_leastFor_38 : decode cX5_leastFor 38 = .ok (.iload 4, 2) := by decide +kernel
theorem dX5_leastFor_40 : decode cX5_leastFor 40 = .ok (.aload_n 0, 1) := by decide +kernel
theorem dX5_leastFor_41 : decode cX5_leastFor 41 = .ok (.iload_n 1, 1) := by decide +kernel
theorem dX5_leastFor_42 : decode cX5_leastFor 42 = .ok (.iconst 0, 1) := by decide +kernel
theorem dX5_leastFor_43 : decode cX5_leastFor 43 = .ok (.invokevirtual 40, 3) := by decide +kernel
theorem dX5_leastFor_46 : decode cX5_leastFor 46 = .ok (.imul, 1) := by decide +kernel
theorem dX5_leastFor_47 : decode cX5_leastFor 47 = .ok (.aload_n 0, 1) := by decide +kernel
theorem dX5_leastFor_48 : decode cX5_leastFor 48 = .ok (.iload_n 3, 1) := by decide +kernel
theorem dX5_leastFor_49 : decode cX5_leastFor 49 = .ok (.iconst 0, 1) := by decide +kernel
theorem dX5_leastFor_50 : decode cX5_leastFor 50 = .ok (.invokevirtual 40, 3) := by decide +kernel
theorem dX5_leastFor_53 : decode cX5_leastFor 53 = .ok (.invokestatic 125, 3) := by decide +kernel
theorem dX5_leastFor_56 : decode cX5_leastFor 56 = .ok (.aload_n 0, 1) := by decide +kernel
theorem dX5_leastFor_57 : decode cX5_leastFor 57 = .ok (.getfield 7, 3) := by decide +kernel
theorem dX5_leastFor_60 : decode cX5_leastFor 60 = .ok (.iconst 1, 1) := by decide +kernel
theorem dX5_leastFor_61 : decode cX5_leastFor 61 = .ok (.iaload, 1) := by decide +kernel
theorem dX5_leastFor_62 : decode cX5_leastFor 62 = .ok (.isub, 1) := by decide +kernel
theorem dX5_leastFor_63 : decode cX5_leastFor 63 = .ok (.aload_n 0, 1) := by decide +kernel
theorem dX5_leastFor_64 : decode cX5_leastFor 64 = .ok (.getfield 7, 3) := by decide +kernel
theorem dX5_leastFor_67 : decode cX5_leastFor 67 = .ok (.iconst 0, 1) := by decide +kernel
theorem dX5_leastFor_68 : decode cX5_leastFor 68 = .ok (.iaload, 1) := by decide +kernel
theorem dX5_leastFor_69 : decode cX5_leastFor 69 = .ok (.iadd, 1) := by decide +kernel
theorem dX5_leastFor_70 : decode cX5_leastFor 70 = .ok (.istore 5, 2) := by decide +kernel
theorem dX5_leastFor_72 : decode cX5_leastFor 72 = .ok (.iload 5, 2) := by decide +kernel
theorem dX5_leastFor_74 : decode cX5_leastFor 74 = .ok (.iload_n 2, 1) := by decide +kernel
theorem dX5_leastFor_75 : decode cX5_leastFor 75 = .ok (.if_icmp .le 8, 3) := by decide +kernel
theorem dX5_leastFor_78 : decode cX5_leastFor 78 = .ok (.iload 5, 2) := by decide +kernel
theorem dX5_leastFor_80 : decode cX5_leastFor 80 = .ok (.goto 4, 3) := by decide +kernel
theorem dX5_leastFor_83 : decode cX5_leastFor 83 = .ok (.iload_n 2, 1) := by decide +kernel
theorem dX5_leastFor_84 : decode cX5_leastFor 84 = .ok (.istore_n 2, 1) := by decide +kernel
theorem dX5_leastFor_85 : decode cX5_leastFor 85 = .ok (.iinc 3 1, 3) := by decide +kernel
theorem dX5_leastFor_88 : decode cX5_leastFor 88 = .ok (.goto (-84), 3) := by decide +kernel
theorem dX5_leastFor_91 : decode cX5_leastFor 91 = .ok (.iload_n 2, 1) := by decide +kernel
theorem dX5_leastFor_92 : decode cX5_leastFor 92 = .ok (.ireturn, 1) := by decide +kernel
set_option maxRecDepth 20000 in
theorem ggX5_liftAll_X5_save : GoodIn wsX5_liftAll wsX5_save := goodIn_r _ [7, 8, 9, 2, 25, 26, 27, 28, 29, 30, 31, 32, 33, 34, 35, 36] (by decide +kernel) (by decide +kernel)
set_option maxRecDepth 20000 in
theorem gX5_liftAll_X5_save : GoodIn wsX5_liftAll (wsV RX5 91 RX5 yX5_save wsX5_save) := goodIn_app (goodIn_of _ (by decide +kernel)) ggX5_liftAll_X5_save
set_option maxRecDepth 20000 in
theorem ggX5_liftAll_X5_leastFor : GoodIn wsX5_liftAll wsX5_leastFor := goodIn_r _ [13, 2, 14, 15, 16, 6, 17, 18, 19, 20, 25, 26, 27, 28, 29, 30, 31, 32, 33, 34, 35, 36] (by decide +kernel) (by decide +kernel)
set_option maxRecDepth 20000 in
theorem gX5_liftAll_X5_leastFor : GoodIn wsX5_liftAll (wsV RX5 128 RX5 yX5_leastFor wsX5_leastFor) := goodIn_app (goodIn_of _ (by decide +kernel)) ggX5_liftAll_X5_leastFor
set_option maxRecDepth 20000 in
theorem ggX5_liftAll_X5_of : GoodIn wsX5_liftAll wsX5_of := goodIn_r _ [17, 2, 25, 26, 27, 28, 29, 30, 31, 32, 33, 34, 35, 36] (by decide +kernel) (by decide +kernel)
set_option maxRecDepth 20000 in
theorem gX5_liftAll_X5_of : GoodIn wsX5_liftAll (wsV RX5 40 RX5 yX5_of wsX5_of) := goodIn_app (goodIn_of _ (by decide +kernel)) ggX5_liftAll_X5_of
set_option maxRecDepth 20000 in
theorem ggX5_liftAll_X5_put : GoodIn wsX5_liftAll wsX5_put := goodIn_r _ [24, 2, 25, 26, 27, 28, 29, 30, 31, 32, 33, 34, 35, 36] (by decide +kernel) (by decide +kernel)
set_option maxRecDepth 20000 in
theorem gX5_liftAll_X5_put : GoodIn wsX5_liftAll (wsV RX5 78 RX5 yX5_put wsX5_put) := goodIn_app (goodIn_of _ (by decide +kernel)) ggX5_liftAll_X5_put
theorem dX5_liftAll_0 : decode cX5_liftAll 0 = .ok (.aload_n 0, 1) := by decide +kernel
theorem dX5_liftAll_1 : decode cX5_liftAll 1 = .ok (.iconst 0, 1) := by decide +kernel
theorem dX5_liftAll_2 : decode cX5_liftAll 2 = .ok (.putfield 25, 3) := by decide +kernel
theorem dX5_liftAll_5 : decode cX5_liftAll 5 = .ok (.aload_n 0, 1) := by decide +kernel
theorem dX5_liftAll_6 : decode cX5_liftAll 6 = .ok (.invokevirtual 91, 3) := by decide +kernel
theorem dX5_liftAll_9 : decode cX5_liftAll 9 = .ok (.iconst 0, 1) := by decide +kernel
theorem dX5_liftAll_10 : decode cX5_liftAll 10 = .ok (.istore_n 1, 1) := by decide +kernel
theorem dX5_liftAll_11 : decode cX5_liftAll 11 = .ok (.iconst 1, 1) := by decide +kernel
theorem dX5_liftAll_12 : decode cX5_liftAll 12 = .ok (.istore_n 2, 1) := by decide +kernel
theorem dX5_liftAll_13 : decode cX5_liftAll 13 = .ok (.iload_n 2, 1) := by decide +kernel
theorem dX5_liftAll_14 : decode cX5_liftAll 14 = .ok (.aload_n 0, 1) := by decide +kernel
theorem dX5_liftAll_15 : decode cX5_liftAll 15 = .ok (.getfield 7, 3) := by decide +kernel
theorem dX5_liftAll_18 : decode cX5_liftAll 18 = .ok (.iconst 3, 1) := by decide +kernel
theorem dX5_liftAll_19 : decode cX5_liftAll 19 = .ok (.iaload, 1) := by decide +kernel
theorem dX5_liftAll_20 : decode cX5_liftAll 20 = .ok (.if_icmp .ge 42, 3) := by decide +kernel
theorem dX5_liftAll_23 : decode cX5_liftAll 23 = .ok (.aload_n 0, 1) := by decide +kernel
theorem dX5_liftAll_24 : decode cX5_liftAll 24 = .ok (.iload_n 2, 1) := by decide +kernel
theorem dX5_liftAll_25 : decode cX5_liftAll 25 = .ok (.invokevirtual 128, 3) := by decide +kernel
theorem dX5_liftAll_28 : decode cX5_liftAll 28 = .ok (.istore_n 3, 1) := by decide +kernel
theorem dX5_liftAll_29 : decode cX5_liftAll 29 = .ok (.aload_n 0, 1) := by decide +kernel
theorem dX5_liftAll_30 : decode cX5_liftAll 30 = .ok (.iload_n 2, 1) := by decide +kernel
theorem dX5_liftAll_31 : decode cX5_liftAll 31 = .ok (.iconst 1, 1) := by decide +kernel
theorem dX5_liftAll_32 : decode cX5_liftAll 32 = .ok (.invokevirtual 40, 3) := by decide +kernel
theorem dX5_liftAll_35 : decode cX5_liftAll 35 = .ok (.iload_n 3, 1) := by decide +kernel
theorem dX5_liftAll_36 : decode cX5_liftAll 36 = .ok (.if_icmp .ge 20, 3) := by decide +kernel
theorem dX5_liftAll_39 : decode cX5_liftAll 39 = .ok (.iload_n 3, 1) := by decide +kernel
theorem dX5_liftAll_40 : decode cX5_liftAll 40 = .ok (.sipush 999, 3) := by decide +kernel
theorem dX5_liftAll_43 : decode cX5_liftAll 43 = .ok (.if_icmp .gt 13, 3) := by decide +kernel
theorem dX5_liftAll_46 : decode cX5_liftAll 46 = .ok (.aload_n 0, 1) := by decide +kernel
theorem dX5_liftAll_47 : decode cX5_liftAll 47 = .ok (.iload_n 2, 1) := by decide +kernel
theorem dX5_liftAll_48 : decode cX5_liftAll 48 = .ok (.iconst 1, 1) := by decide +kernel
theorem dX5_liftAll_49 : decode cX5_liftAll 49 = .ok (.iload_n 3, 1) := by decide +kernel
theorem dX5_liftAll_50 : decode cX5_liftAll 50 = .ok (.invokevirtual 78, 3) := by decide +kernel
theorem dX5_liftAll_53 : decode cX5_liftAll 53 = .ok (.iinc 1 1, 3) := by decide +kernel
theorem dX5_liftAll_56 : decode cX5_liftAll 56 = .ok (.iinc 2 1, 3) := by decide +kernel
theorem dX5_liftAll_59 : decode cX5_liftAll 59 = .ok (.goto (-46), 3) := by decide +kernel
theorem dX5_liftAll_62 : decode cX5_liftAll 62 = .ok (.iload_n 1, 1) := by decide +kernel
theorem dX5_liftAll_63 : decode cX5_liftAll 63 = .ok (.ireturn, 1) := by decide +kernel
set_option maxRecDepth 20000 in
theorem ggX5_append_X5_within : GoodIn wsX5_append wsX5_within := goodIn_r _ [7] (by decide +kernel) (by decide +kernel)
set_option maxRecDepth 20000 in
theorem gX5_append_X5_within : GoodIn wsX5_append (va_wsS RX5 32 yX5_within wsX5_within) := goodIn_app (goodIn_of _ (by decide +kernel)) ggX5_append_X5_within
theorem dX5_append_0 : decode cX5_append 0 = .ok (.aload_n 0, 1) := by decide +kernel
theorem dX5_append_1 : decode cX5_append 1 = .ok (.iload_n 1, 1) := by decide +kernel
theorem dX5_append_2 : decode cX5_append 2 = .ok (.bipush 33, 2) := by decide +kernel
theorem dX5_append_4 : decode cX5_append 4 = .ok (.bipush 126, 2) := by decide +kernel
theorem dX5_append_6 : decode cX5_append 6 = .ok (.invokestatic 32, 3) := by decide +kernel
theorem dX5_append_9 : decode cX5_append 9 = .ok (.ifCond .ne 7, 3) := by decide +kernel
theorem dX5_append_12 : decode cX5_append 12 = .ok (.iconst 1, 1) := by decide +kernel
theorem dX5_append_13 : decode cX5_append 13 = .ok (.goto 17, 3) := by decide +kernel
theorem dX5_append_16 : decode cX5_append 16 = .ok (.aload_n 0, 1) := by decide +kernel
theorem dX5_append_17 : decode cX5_append 17 = .ok (.getfield 131, 3) := by decide +kernel
theorem dX5_append_20 : decode cX5_append 20 = .ok (.bipush 60, 2) := by decide +kernel
theorem dX5_append_22 : decode cX5_append 22 = .ok (.if_icmp .ne 7, 3) := by decide +kernel
theorem dX5_append_25 : decode cX5_append 25 = .ok (.iconst 2, 1) := by decide +kernel
theorem dX5_append_26 : decode cX5_append 26 = .ok (.goto 4, 3) := by decide +kernel
theorem dX5_append_29 : decode cX5_append 29 = .ok (.iconst 0, 1) := by decide +kernel
theorem dX5_append_30 : decode cX5_append 30 = .ok (.putfield 25, 3) := by decide +kernel
theorem dX5_append_33 : decode cX5_append 33 = .ok (.aload_n 0, 1) := by decide +kernel
theorem dX5_append_34 : decode cX5_append 34 = .ok (.getfield 25, 3) := by decide +kernel
theorem dX5_append_37 : decode cX5_append 37 = .ok (.ifCond .le 5, 3) := by decide +kernel
theorem dX5_append_40 : decode cX5_append 40 = .ok (.iconst 0, 1) := by decide +kernel
theorem dX5_append_41 : decode cX5_append 41 = .ok (.ireturn, 1) := by decide +kernel
theorem dX5_append_42 : decode cX5_append 42 = .ok (.aload_n 0, 1) := by decide +kernel
theorem dX5_append_43 : decode cX5_append 43 = .ok (.getfield 16, 3) := by decide +kernel
theorem dX5_append_46 : decode cX5_append 46 = .ok (.aload_n 0, 1) := by decide +kernel
theorem dX5_append_47 : decode cX5_append 47 = .ok (.getfield 131, 3) := by decide +kernel
theorem dX5_append_50 : decode cX5_append 50 = .ok (.iload_n 1, 1) := by decide +kernel
theorem dX5_append_51 : decode cX5_append 51 = .ok (.iastore, 1) := by decide +kernel
theorem dX5_append_52 : decode cX5_append 52 = .ok (.aload_n 0, 1) := by decide +kernel
theorem dX5_append_53 : decode cX5_append 53 = .ok (.dup, 1) := by decide +kernel
theorem dX5_append_54 : decode cX5_append 54 = .ok (.getfield 131, 3) := by decide +kernel
theorem dX5_append_57 : decode cX5_append 57 = .ok (.iconst 1, 1) := by decide +kernel
theorem dX5_append_58 : decode cX5_append 58 = .ok (.iadd, 1) := by decide +kernel
theorem dX5_append_59 : decode cX5_append 59 = .ok (.putfield 131, 3) := by decide +kernel
theorem dX5_append_62 : decode cX5_append 62 = .ok (.aload_n 0, 1) := by decide +kernel
theorem dX5_append_63 : decode cX5_append 63 = .ok (.getfield 131, 3) := by decide +kernel
theorem dX5_append_66 : decode cX5_append 66 = .ok (.ireturn, 1) := by decide +kernel
theorem dX5_clearBuffer_0 : decode cX5_clearBuffer 0 = .ok (.aload_n 0, 1) := by decide +kernel
theorem dX5_clearBuffer_1 : decode cX5_clearBuffer 1 = .ok (.iconst 0, 1) := by decide +kernel
theorem dX5_clearBuffer_2 : decode cX5_clearBuffer 2 = .ok (.putfield 25, 3) := by decide +kernel
theorem dX5_clearBuffer_5 : decode cX5_clearBuffer 5 = .ok (.aload_n 0, 1) := by decide +kernel
theorem dX5_clearBuffer_6 : decode cX5_clearBuffer 6 = .ok (.getfield 131, 3) := by decide +kernel
theorem dX5_clearBuffer_9 : decode cX5_clearBuffer 9 = .ok (.istore_n 1, 1) := by decide +kernel
theorem dX5_clearBuffer_10 : decode cX5_clearBuffer 10 = .ok (.aload_n 0, 1) := by decide +kernel
theorem dX5_clearBuffer_11 : decode cX5_clearBuffer 11 = .ok (.iconst 0, 1) := by decide +kernel
theorem dX5_clearBuffer_12 : decode cX5_clearBuffer 12 = .ok (.putfield 131, 3) := by decide +kernel
theorem dX5_clearBuffer_15 : decode cX5_clearBuffer 15 = .ok (.iload_n 1, 1) := by decide +kernel
theorem dX5_clearBuffer_16 : decode cX5_clearBuffer 16 = .ok (.ireturn, 1) := by decide +kernel
set_option maxRecDepth 20000 in
theorem ggX5_takesDigit_X5_isFar : GoodIn wsX5_takesDigit wsX5_isFar := goodIn_r _ [8, 9, 10, 7, 11] (by decide +kernel) (by decide +kernel)
set_option maxRecDepth 20000 in
theorem gX5_takesDigit_X5_isFar : GoodIn wsX5_takesDigit (va_wsS RX5 82 yX5_isFar wsX5_isFar) := goodIn_app (goodIn_of _ (by decide +kernel)) ggX5_takesDigit_X5_isFar
set_option maxRecDepth 20000 in
theorem ggX5_takesDigit_X5_isHeight : GoodIn wsX5_takesDigit wsX5_isHeight := goodIn_r _ [14, 9, 10, 7, 11] (by decide +kernel) (by decide +kernel)
set_option maxRecDepth 20000 in
theorem gX5_takesDigit_X5_isHeight : GoodIn wsX5_takesDigit (va_wsS RX5 85 yX5_isHeight wsX5_isHeight) := goodIn_app (goodIn_of _ (by decide +kernel)) ggX5_takesDigit_X5_isHeight
set_option maxRecDepth 20000 in
theorem ggX5_takesDigit_X5_within : GoodIn wsX5_takesDigit wsX5_within := goodIn_r _ [11] (by decide +kernel) (by decide +kernel)
set_option maxRecDepth 20000 in
theorem gX5_takesDigit_X5_within : GoodIn wsX5_takesDigit (va_wsS RX5 32 yX5_within wsX5_within) := goodIn_app (goodIn_of _ (by decide +kernel)) ggX5_takesDigit_X5_within
theorem dX5_takesDigit_0 : decode cX5_takesDigit 0 = .ok (.aload_n 0, 1) := by decide +kernel
theorem dX5_takesDigit_1 : decode cX5_takesDigit 1 = .ok (.getfield 134, 3) := by decide +kernel
theorem dX5_takesDigit_4 : decode cX5_takesDigit 4 = .ok (.iconst (-1), 1) := by decide +kernel
theorem dX5_takesDigit_5 : decode cX5_takesDigit 5 = .ok (.if_icmp .ne 7, 3) := by decide +kernel
theorem dX5_takesDigit_8 : decode cX5_takesDigit 8 = .ok (.iload_n 1, 1) := by decide +kernel
theorem dX5_takesDigit_9 : decode cX5_takesDigit 9 = .ok (.goto 12, 3) := by decide +kernel
theorem dX5_takesDigit_12 : decode cX5_takesDigit 12 = .ok (.bipush 10, 2) := by decide +kernel
theorem dX5_takesDigit_14 : decode cX5_takesDigit 14 = .ok (.aload_n 0, 1) := by decide +kernel
theorem dX5_takesDigit_15 : decode cX5_takesDigit 15 = .ok (.getfield 134, 3) := by decide +kernel
theorem dX5_takesDigit_18 : decode cX5_takesDigit 18 = .ok (.imul, 1) := by decide +kernel
theorem dX5_takesDigit_19 : decode cX5_takesDigit 19 = .ok (.iload_n 1, 1) := by decide +kernel
theorem dX5_takesDigit_20 : decode cX5_takesDigit 20 = .ok (.iadd, 1) := by decide +kernel
theorem dX5_takesDigit_21 : decode cX5_takesDigit 21 = .ok (.istore_n 2, 1) := by decide +kernel
theorem dX5_takesDigit_22 : decode cX5_takesDigit 22 = .ok (.aload_n 0, 1) := by decide +kernel
theorem dX5_takesDigit_23 : decode cX5_takesDigit 23 = .ok (.getfield 137, 3) := by decide +kernel
theorem dX5_takesDigit_26 : decode cX5_takesDigit 26 = .ok (.ifCond .ne 10, 3) := by decide +kernel
theorem dX5_takesDigit_29 : decode cX5_takesDigit 29 = .ok (.iload_n 2, 1) := by decide +kernel
theorem dX5_takesDigit_30 : decode cX5_takesDigit 30 = .ok (.invokestatic 82, 3) := by decide +kernel
theorem dX5_takesDigit_33 : decode cX5_takesDigit 33 = .ok (.goto 25, 3) := by decide +kernel
theorem dX5_takesDigit_36 : decode cX5_takesDigit 36 = .ok (.aload_n 0, 1) := by decide +kernel
theorem dX5_takesDigit_37 : decode cX5_takesDigit 37 = .ok (.getfield 137, 3) := by decide +kernel
theorem dX5_takesDigit_40 : decode cX5_takesDigit 40 = .ok (.iconst 1, 1) := by decide +kernel
theorem dX5_takesDigit_41 : decode cX5_takesDigit 41 = .ok (.if_icmp .ne 10, 3) := by decide +kernel
theorem dX5_takesDigit_44 : decode cX5_takesDigit 44 = .ok (.iload_n 2, 1) := by decide +kernel
theorem dX5_takesDigit_45 : decode cX5_takesDigit 45 = .ok (.invokestatic 85, 3) := by decide +kernel
theorem dX5_takesDigit_48 : decode cX5_takesDigit 48 = .ok (.goto 10, 3) := by decide +kernel
theorem dX5_takesDigit_51 : decode cX5_takesDigit 51 = .ok (.iload_n 2, 1) := by decide +kernel
theorem dX5_takesDigit_52 : decode cX5_takesDigit 52 = .ok (.iconst 1, 1) := by decide +kernel
theorem dX5_takesDigit_53 : decode cX5_takesDigit 53 = .ok (.bipush 12, 2) := by decide +kernel
theorem dX5_takesDigit_55 : decode cX5_takesDigit 55 = .ok (.invokestatic 32, 3) := by decide +kernel
theorem dX5_takesDigit_58 : decode cX5_takesDigit 58 = .ok (.istore_n 3, 1) := by decide +kernel
theorem dX5_takesDigit_59 : decode cX5_takesDigit 59 = .ok (.iload_n 1, 1) := by decide +kernel
theorem dX5_takesDigit_60 : decode cX5_takesDigit 60 = .ok (.iconst 0, 1) := by decide +kernel
theorem dX5_takesDigit_61 : decode cX5_takesDigit 61 = .ok (.bipush 9, 2) := by decide +kernel
theorem dX5_takesDigit_63 : decode cX5_takesDigit 63 = .ok (.invokestatic 32, 3) := by decide +kernel
theorem dX5_takesDigit_66 : decode cX5_takesDigit 66 = .ok (.ifCond .eq 18, 3) := by decide +kernel
theorem dX5_takesDigit_69 : decode cX5_takesDigit 69 = .ok (.aload_n 0, 1) := by decide +kernel
theorem dX5_takesDigit_70 : decode cX5_takesDigit 70 = .ok (.getfield 134, 3) := by decide +kernel
theorem dX5_takesDigit_73 : decode cX5_takesDigit 73 = .ok (.ifCond .eq 11, 3) := by decide +kernel
theorem dX5_takesDigit_76 : decode cX5_takesDigit 76 = .ok (.iload_n 3, 1) := by decide +kernel
theorem dX5_takesDigit_77 : decode cX5_takesDigit 77 = .ok (.ifCond .eq 7, 3) := by decide +kernel
theorem dX5_takesDigit_80 : decode cX5_takesDigit 80 = .ok (.iconst 1, 1) := by decide +kernel
theorem dX5_takesDigit_81 : decode cX5_takesDigit 81 = .ok (.goto 4, 3) := by decide +kernel
theorem dX5_takesDigit_84 : decode cX5_takesDigit 84 = .ok (.iconst 0, 1) := by decide +kernel
theorem dX5_takesDigit_85 : decode cX5_takesDigit 85 = .ok (.istore 4, 2) := by decide +kernel
theorem dX5_takesDigit_87 : decode cX5_takesDigit 87 = .ok (.aload_n 0, 1) := by decide +kernel
theorem dX5_takesDigit_88 : decode cX5_takesDigit 88 = .ok (.iload 4, 2) := by decide +kernel
theorem dX5_takesDigit_90 : decode cX5_takesDigit 90 = .ok (.ifCond .eq 7, 3) := by decide +kernel
theorem dX5_takesDigit_93 : decode cX5_takesDigit 93 = .ok (.iload_n 2, 1) := by decide +kernel
theorem dX5_takesDigit_94 : decode cX5_takesDigit 94 = .ok (.goto 7, 3) := by decide +kernel
theorem dX5_takesDigit_97 : decode cX5_takesDigit 97 = .ok (.aload_n 0, 1) := by decide +kernel
theorem dX5_takesDigit_98 : decode cX5_takesDigit 98 = .ok (.getfield 134, 3) := by decide +kernel
theorem dX5_takesDigit_101 : decode cX5_takesDigit 101 = .ok (.putfield 134, 3) := by decide +kernel
theorem dX5_takesDigit_104 : decode cX5_takesDigit 104 = .ok (.aload_n 0, 1) := by decide +kernel
theorem dX5_takesDigit_105 : decode cX5_takesDigit 105 = .ok (.getfield 19, 3) := by decide +kernel
theorem dX5_takesDigit_108 : decode cX5_takesDigit 108 = .ok (.iconst 3, 1) := by decide +kernel
theorem dX5_takesDigit_109 : decode cX5_takesDigit 109 = .ok (.aload_n 0, 1) := by decide +kernel
theorem dX5_takesDigit_110 : decode cX5_takesDigit 110 = .ok (.getfield 140, 3) := by decide +kernel
theorem dX5_takesDigit_113 : decode cX5_takesDigit 113 = .ok (.imul, 1) := by decide +kernel
theorem dX5_takesDigit_114 : decode cX5_takesDigit 114 = .ok (.aload_n 0, 1) := by decide +kernel
theorem dX5_takesDigit_115 : decode cX5_takesDigit 115 = .ok (.getfield 137, 3) := by decide +kernel
theorem dX5_takesDigit_118 : decode cX5_takesDigit 118 = .ok (.iadd, 1) := by decide +kernel
theorem dX5_takesDigit_119 : decode cX5_takesDigit 119 = .ok (.aload_n 0, 1) := by decide +kernel
theorem dX5_takesDigit_120 : decode cX5_takesDigit 120 = .ok (.getfield 134, 3) := by decide +kernel
theorem dX5_takesDigit_123 : decode cX5_takesDigit 123 = .ok (.iastore, 1) := by decide +kernel
theorem dX5_takesDigit_124 : decode cX5_takesDigit 124 = .ok (.iload 4, 2) := by decide +kernel
theorem dX5_takesDigit_126 : decode cX5_takesDigit 126 = .ok (.ireturn, 1) := by decide +kernel
set_option maxRecDepth 20000 in
theorem ggX5_takes_X5_takesDigit : GoodIn wsX5_takes wsX5_takesDigit := goodIn_r _ [8, 2, 1, 9, 3, 10, 11, 7, 12, 13, 14, 15, 16, 17, 18, 19, 20, 21, 22, 23, 24, 25, 26, 27, 28, 29, 30] (by decide +kernel) (by decide +kernel)
set_option maxRecDepth 20000 in
theorem gX5_takes_X5_takesDigit : GoodIn wsX5_takes (wsV RX5 143 RX5 yX5_takesDigit wsX5_takesDigit) := goodIn_app (goodIn_of _ (by decide +kernel)) ggX5_takes_X5_takesDigit
theorem dX5_takes_0 : decode cX5_takes 0 = .ok (.aload_n 0, 1) := by decide +kernel
theorem dX5_takes_1 : decode cX5_takes 1 = .ok (.getfield 137, 3) := by decide +kernel
theorem dX5_takes_4 : decode cX5_takes 4 = .ok (.ifCond .ne 8, 3) := by decide +kernel
theorem dX5_takes_7 : decode cX5_takes 7 = .ok (.bipush 94, 2) := by decide +kernel
theorem dX5_takes_9 : decode cX5_takes 9 = .ok (.goto 18, 3) := by decide +kernel
theorem dX5_takes_12 : decode cX5_takes 12 = .ok (.aload_n 0, 1) := by decide +kernel
theorem dX5_takes_13 : decode cX5_takes 13 = .ok (.getfield 137, 3) := by decide +kernel
theorem dX5_takes_16 : decode cX5_takes 16 = .ok (.iconst 1, 1) := by decide +kernel
theorem dX5_takes_17 : decode cX5_takes 17 = .ok (.if_icmp .ne 8, 3) := by decide +kernel
theorem dX5_takes_20 : decode cX5_takes 20 = .ok (.bipush 42, 2) := by decide +kernel
theorem dX5_takes_22 : decode cX5_takes 22 = .ok (.goto 5, 3) := by decide +kernel
theorem dX5_takes_25 : decode cX5_takes 25 = .ok (.bipush 59, 2) := by decide +kernel
theorem dX5_takes_27 : decode cX5_takes 27 = .ok (.istore_n 2, 1) := by decide +kernel
theorem dX5_takes_28 : decode cX5_takes 28 = .ok (.aload_n 0, 1) := by decide +kernel
theorem dX5_takes_29 : decode cX5_takes 29 = .ok (.getfield 134, 3) := by decide +kernel
theorem dX5_takes_32 : decode cX5_takes 32 = .ok (.iconst (-1), 1) := by decide +kernel
theorem dX5_takes_33 : decode cX5_takes 33 = .ok (.if_icmp .eq 8, 3) := by decide +kernel
theorem dX5_takes_36 : decode cX5_takes 36 = .ok (.iload_n 1, 1) := by decide +kernel
theorem dX5_takes_37 : decode cX5_takes 37 = .ok (.iload_n 2, 1) := by decide +kernel
theorem dX5_takes_38 : decode cX5_takes 38 = .ok (.if_icmp .eq 12, 3) := by decide +kernel
theorem dX5_takes_41 : decode cX5_takes 41 = .ok (.aload_n 0, 1) := by decide +kernel
theorem dX5_takes_42 : decode cX5_takes 42 = .ok (.iload_n 1, 1) := by decide +kernel
theorem dX5_takes_43 : decode cX5_takes 43 = .ok (.bipush 48, 2) := by decide +kernel
theorem dX5_takes_45 : decode cX5_takes 45 = .ok (.isub, 1) := by decide +kernel
theorem dX5_takes_46 : decode cX5_takes 46 = .ok (.invokevirtual 143, 3) := by decide +kernel
theorem dX5_takes_49 : decode cX5_takes 49 = .ok (.ireturn, 1) := by decide +kernel
theorem dX5_takes_50 : decode cX5_takes 50 = .ok (.aload_n 0, 1) := by decide +kernel
theorem dX5_takes_51 : decode cX5_takes 51 = .ok (.dup, 1) := by decide +kernel
theorem dX5_takes_52 : decode cX5_takes 52 = .ok (.getfield 140, 3) := by decide +kernel
theorem dX5_takes_55 : decode cX5_takes 55 = .ok (.aload_n 0, 1) := by decide +kernel
theorem dX5_takes_56 : decode cX5_takes 56 = .ok (.getfield 137, 3) := by decide +kernel
theorem dX5_takes_59 : decode cX5_takes 59 = .ok (.iconst 2, 1) := by decide +kernel
theorem dX5_takes_60 : decode cX5_takes 60 = .ok (.if_icmp .ne 7, 3) := by decide +kernel
theorem dX5_takes_63 : decode cX5_takes 63 = .ok (.iconst 1, 1) := by decide +kernel
theorem dX5_takes_64 : decode cX5_takes 64 = .ok (.goto 4, 3) := by decide +kernel
theorem dX5_takes_67 : decode cX5_takes 67 = .ok (.iconst 0, 1) := by decide +kernel
theorem dX5_takes_68 : decode cX5_takes 68 = .ok (.iadd, 1) := by decide +kernel
theorem dX5_takes_69 : decode cX5_takes 69 = .ok (.putfield 140, 3) := by decide +kernel
theorem dX5_takes_72 : decode cX5_takes 72 = .ok (.aload_n 0, 1) := by decide +kernel
theorem dX5_takes_73 : decode cX5_takes 73 = .ok (.aload_n 0, 1) := by decide +kernel
theorem dX5_takes_74 : decode cX5_takes 74 = .ok (.getfield 137, 3) := by decide +kernel
theorem dX5_takes_77 : decode cX5_takes 77 = .ok (.iconst 2, 1) := by decide +kernel
theorem dX5_takes_78 : decode cX5_takes 78 = .ok (.if_icmp .ne 7, 3) := by decide +kernel
theorem dX5_takes_81 : decode cX5_takes 81 = .ok (.iconst 0, 1) := by decide +kernel
theorem dX5_takes_82 : decode cX5_takes 82 = .ok (.goto 9, 3) := by decide +kernel
theorem dX5_takes_85 : decode cX5_takes 85 = .ok (.aload_n 0, 1) := by decide +kernel
theorem dX5_takes_86 : decode cX5_takes 86 = .ok (.getfield 137, 3) := by decide +kernel
theorem dX5_takes_89 : decode cX5_takes 89 = .ok (.iconst 1, 1) := by decide +kernel
theorem dX5_takes_90 : decode cX5_takes 90 = .ok (.iadd, 1) := by decide +kernel
theorem dX5_takes_91 : decode cX5_takes 91 = .ok (.putfield 137, 3) := by decide +kernel
theorem dX5_takes_94 : decode cX5_takes 94 = .ok (.aload_n 0, 1) := by decide +kernel
theorem dX5_takes_95 : decode cX5_takes 95 = .ok (.iconst (-1), 1) := by decide +kernel
theorem dX5_takes_96 : decode cX5_takes 96 = .ok (.putfield 134, 3) := by decide +kernel
theorem dX5_takes_99 : decode cX5_takes 99 = .ok (.iconst 1, 1) := by decide +kernel
theorem dX5_takes_100 : decode cX5_takes 100 = .ok (.ireturn, 1) := by decide +kernel
set_option maxRecDepth 20000 in
theorem ggX5_rightUpTo_X5_takes : GoodIn wsX5_rightUpTo wsX5_takes := goodIn_r _ [10, 2, 3, 1, 11, 12, 13, 9, 14, 15, 16, 17, 18, 19, 20, 21, 22, 23, 24, 25, 26, 27, 28, 29, 30, 31, 32, 33, 34, 35, 36] (by decide +kernel) (by decide +kernel)
set_option maxRecDepth 20000 in
theorem gX5_rightUpTo_X5_takes : GoodIn wsX5_rightUpTo (wsV RX5 146 RX5 yX5_takes wsX5_takes) := goodIn_app (goodIn_of _ (by decide +kernel)) ggX5_rightUpTo_X5_takes
theorem dX5_rightUpTo_0 : decode cX5_rightUpTo 0 = .ok (.aload_n 0, 1) := by decide +kernel
theorem dX5_rightUpTo_1 : decode cX5_rightUpTo 1 = .ok (.iconst 0, 1) := by decide +kernel
theorem dX5_rightUpTo_2 : decode cX5_rightUpTo 2 = .ok (.putfield 140, 3) := by decide +kernel
theorem dX5_rightUpTo_5 : decode cX5_rightUpTo 5 = .ok (.aload_n 0, 1) := by decide +kernel
theorem dX5_rightUpTo_6 : decode cX5_rightUpTo 6 = .ok (.iconst 0, 1) := by decide +kernel
theorem dX5_rightUpTo_7 : decode cX5_rightUpTo 7 = .ok (.putfield 137, 3) := by decide +kernel
theorem dX5_rightUpTo_10 : decode cX5_rightUpTo 10 = .ok (.aload_n 0, 1) := by decide +kernel
theorem dX5_rightUpTo_11 : decode cX5_rightUpTo 11 = .ok (.iconst (-1), 1) := by decide +kernel
theorem dX5_rightUpTo_12 : decode cX5_rightUpTo 12 = .ok (.putfield 134, 3) := by decide +kernel
theorem dX5_rightUpTo_15 : decode cX5_rightUpTo 15 = .ok (.iconst 0, 1) := by decide +kernel
theorem dX5_rightUpTo_16 : decode cX5_rightUpTo 16 = .ok (.istore_n 1, 1) := by decide +kernel
theorem dX5_rightUpTo_17 : decode cX5_rightUpTo 17 = .ok (.iload_n 1, 1) := by decide +kernel
theorem dX5_rightUpTo_18 : decode cX5_rightUpTo 18 = .ok (.aload_n 0, 1) := by decide +kernel
theorem dX5_rightUpTo_19 : decode cX5_rightUpTo 19 = .ok (.getfield 131, 3) := by decide +kernel
theorem dX5_rightUpTo_22 : decode cX5_rightUpTo 22 = .ok (.if_icmp .ge 22, 3) := by decide +kernel
theorem dX5_rightUpTo_25 : decode cX5_rightUpTo 25 = .ok (.aload_n 0, 1) := by decide +kernel
theorem dX5_rightUpTo_26 : decode cX5_rightUpTo 26 = .ok (.aload_n 0, 1) := by decide +kernel
theorem dX5_rightUpTo_27 : decode cX5_rightUpTo 27 = .ok (.getfield 16, 3) := by decide +kernel
theorem dX5_rightUpTo_30 : decode cX5_rightUpTo 30 = .ok (.iload_n 1, 1) := by decide +kernel
theorem dX5_rightUpTo_31 : decode cX5_rightUpTo 31 = .ok (.iaload, 1) := by decide +kernel
theorem dX5_rightUpTo_32 : decode cX5_rightUpTo 32 = .ok (.invokevirtual 146, 3) := by decide +kernel
theorem dX5_rightUpTo_35 : decode cX5_rightUpTo 35 = .ok (.ifCond .eq 9, 3) := by decide +kernel
theorem dX5_rightUpTo_38 : decode cX5_rightUpTo 38 = .ok (.iinc 1 1, 3) := by decide +kernel
theorem dX5_rightUpTo_41 : decode cX5_rightUpTo 41 = .ok (.goto (-24), 3) := by decide +kernel
theorem dX5_rightUpTo_44 : decode cX5_rightUpTo 44 = .ok (.iload_n 1, 1) := by decide +kernel
theorem dX5_rightUpTo_45 : decode cX5_rightUpTo 45 = .ok (.ireturn, 1) := by decide +kernel
set_option maxRecDepth 20000 in
theorem ggX5_firstError_X5_rightUpTo : GoodIn wsX5_firstError wsX5_rightUpTo := goodIn_r _ [6, 7, 8, 9, 10, 11, 12, 13, 14, 5, 15, 16, 17, 18, 19, 20, 21, 22, 23, 24, 25, 26, 27, 28, 29, 30, 31, 32, 33, 34, 35, 36, 37, 38, 39, 40, 41] (by decide +kernel) (by decide +kernel)
set_option maxRecDepth 20000 in
theorem gX5_firstError_X5_rightUpTo : GoodIn wsX5_firstError (wsV RX5 149 RX5 yX5_rightUpTo wsX5_rightUpTo) := goodIn_app (goodIn_of _ (by decide +kernel)) ggX5_firstError_X5_rightUpTo
theorem dX5_firstError_0 : decode cX5_firstError 0 = .ok (.aload_n 0, 1) := by decide +kernel
theorem dX5_firstError_1 : decode cX5_firstError 1 = .ok (.iconst 0, 1) := by decide +kernel
theorem dX5_firstError_2 : decode cX5_firstError 2 = .ok (.putfield 25, 3) := by decide +kernel
theorem dX5_firstError_5 : decode cX5_firstError 5 = .ok (.aload_n 0, 1) := by decide +kernel
theorem dX5_firstError_6 : decode cX5_firstError 6 = .ok (.invokevirtual 149, 3) := by decide +kernel
theorem dX5_firstError_9 : decode cX5_firstError 9 = .ok (.ireturn, 1) := by decide +kernel
set_option maxRecDepth 20000 in
theorem ggX5_addAll_X5_rightUpTo : GoodIn wsX5_addAll wsX5_rightUpTo := goodIn_r _ [11, 5, 2, 3, 1, 12, 13, 14, 15, 10, 16, 17, 18, 19, 20, 6, 21, 22, 23, 24, 25, 26, 27, 28, 29, 53, 54, 55, 56, 57, 58, 59, 60, 61, 62, 63, 64] (by decide +kernel) (by decide +kernel)
set_option maxRecDepth 20000 in
theorem gX5_addAll_X5_rightUpTo : GoodIn wsX5_addAll (wsV RX5 149 RX5 yX5_rightUpTo wsX5_rightUpTo) := goodIn_app (goodIn_of _ (by decide +kernel)) ggX5_addAll_X5_rightUpTo
set_option maxRecDepth 20000 in
theorem ggX5_addAll_X5_save : GoodIn wsX5_addAll wsX5_save := goodIn_r _ [33, 34, 35, 36, 53, 54, 55, 56, 57, 58, 59, 60, 61, 62, 63, 64] (by decide +kernel) (by decide +kernel)
set_option maxRecDepth 20000 in
theorem gX5_addAll_X5_save : GoodIn wsX5_addAll (wsV RX5 91 RX5 yX5_save wsX5_save) := goodIn_app (goodIn_of _ (by decide +kernel)) ggX5_addAll_X5_save
set_option maxRecDepth 20000 in
theorem ggX5_addAll_X5_canAddRow : GoodIn wsX5_addAll wsX5_canAddRow := goodIn_r _ [40, 36, 41, 42, 43, 10, 44, 53, 54, 55, 56, 57, 58, 59, 60, 61, 62, 63, 64] (by decide +kernel) (by decide +kernel)
set_option maxRecDepth 20000 in
theorem gX5_addAll_X5_canAddRow : GoodIn wsX5_addAll (wsV RX5 88 RX5 yX5_canAddRow wsX5_canAddRow) := goodIn_app (goodIn_of _ (by decide +kernel)) ggX5_addAll_X5_canAddRow
set_option maxRecDepth 20000 in
theorem ggX5_addAll_X5_addsRow : GoodIn wsX5_addAll wsX5_addsRow := goodIn_r _ [48, 36, 41, 42, 43, 10, 44, 49, 50, 51, 52, 53, 54, 55, 56, 57, 58, 59, 60, 61, 62, 63, 64] (by decide +kernel) (by decide +kernel)
set_option maxRecDepth 20000 in
theorem gX5_addAll_X5_addsRow : GoodIn wsX5_addAll (wsV RX5 94 RX5 yX5_addsRow wsX5_addsRow) := goodIn_app (goodIn_of _ (by decide +kernel)) ggX5_addAll_X5_addsRow
theorem dX5_addAll_0 : decode cX5_addAll 0 = .ok (.aload_n 0, 1) := by decide +kernel
theorem dX5_addAll_1 : decode cX5_addAll 1 = .ok (.invokevirtual 149, 3) := by decide +kernel
theorem dX5_addAll_4 : decode cX5_addAll 4 = .ok (.aload_n 0, 1) := by decide +kernel
theorem dX5_addAll_5 : decode cX5_addAll 5 = .ok (.getfield 131, 3) := by decide +kernel
theorem dX5_addAll_8 : decode cX5_addAll 8 = .ok (.if_icmp .ne 23, 3) := by decide +kernel
theorem dX5_addAll_11 : decode cX5_addAll 11 = .ok (.aload_n 0, 1) := by decide +kernel
theorem dX5_addAll_12 : decode cX5_addAll 12 = .ok (.getfield 137, 3) := by decide +kernel
theorem dX5_addAll_15 : decode cX5_addAll 15 = .ok (.iconst 2, 1) := by decide +kernel
theorem dX5_addAll_16 : decode cX5_addAll 16 = .ok (.if_icmp .ne 15, 3) := by decide +kernel
theorem dX5_addAll_19 : decode cX5_addAll 19 = .ok (.aload_n 0, 1) := by decide +kernel
theorem dX5_addAll_20 : decode cX5_addAll 20 = .ok (.getfield 134, 3) := by decide +kernel
theorem dX5_addAll_23 : decode cX5_addAll 23 = .ok (.iconst (-1), 1) := by decide +kernel
theorem dX5_addAll_24 : decode cX5_addAll 24 = .ok (.if_icmp .eq 7, 3) := by decide +kernel
theorem dX5_addAll_27 : decode cX5_addAll 27 = .ok (.iconst 1, 1) := by decide +kernel
theorem dX5_addAll_28 : decode cX5_addAll 28 = .ok (.goto 4, 3) := by decide +kernel
theorem dX5_addAll_31 : decode cX5_addAll 31 = .ok (.iconst 0, 1) := by decide +kernel
theorem dX5_addAll_32 : decode cX5_addAll 32 = .ok (.istore_n 1, 1) := by decide +kernel
theorem dX5_addAll_33 : decode cX5_addAll 33 = .ok (.aload_n 0, 1) := by decide +kernel
theorem dX5_addAll_34 : decode cX5_addAll 34 = .ok (.iload_n 1, 1) := by decide +kernel
theorem dX5_addAll_35 : decode cX5_addAll 35 = .ok (.ifCond .eq 7, 3) := by decide +kernel
theorem dX5_addAll_38 : decode cX5_addAll 38 = .ok (.iconst 0, 1) := by decide +kernel
theorem dX5_addAll_39 : decode cX5_addAll 39 = .ok (.goto 4, 3) := by decide +kernel
theorem dX5_addAll_42 : decode cX5_addAll 42 = .ok (.iconst 1, 1) := by decide +kernel
theorem dX5_addAll_43 : decode cX5_addAll 43 = .ok (.putfield 25, 3) := by decide +kernel
theorem dX5_addAll_46 : decode cX5_addAll 46 = .ok (.aload_n 0, 1) := by decide +kernel
theorem dX5_addAll_47 : decode cX5_addAll 47 = .ok (.getfield 25, 3) := by decide +kernel
theorem dX5_addAll_50 : decode cX5_addAll 50 = .ok (.ifCond .le 5, 3) := by decide +kernel
theorem dX5_addAll_53 : decode cX5_addAll 53 = .ok (.iconst 0, 1) := by decide +kernel
theorem dX5_addAll_54 : decode cX5_addAll 54 = .ok (.ireturn, 1) := by decide +kernel
theorem dX5_addAll_55 : decode cX5_addAll 55 = .ok (.aload_n 0, 1) := by decide +kernel
theorem dX5_addAll_56 : decode cX5_addAll 56 = .ok (.invokevirtual 91, 3) := by decide +kernel
theorem dX5_addAll_59 : decode cX5_addAll 59 = .ok (.aload_n 0, 1) := by decide +kernel
theorem dX5_addAll_60 : decode cX5_addAll 60 = .ok (.iconst 0, 1) := by decide +kernel
theorem dX5_addAll_61 : decode cX5_addAll 61 = .ok (.putfield 131, 3) := by decide +kernel
theorem dX5_addAll_64 : decode cX5_addAll 64 = .ok (.iconst 0, 1) := by decide +kernel
theorem dX5_addAll_65 : decode cX5_addAll 65 = .ok (.istore_n 2, 1) := by decide +kernel
theorem dX5_addAll_66 : decode cX5_addAll 66 = .ok (.iload_n 2, 1) := by decide +kernel
theorem dX5_addAll_67 : decode cX5_addAll 67 = .ok (.aload_n 0, 1) := by decide +kernel
theorem dX5_addAll_68 : decode cX5_addAll 68 = .ok (.getfield 140, 3) := by decide +kernel
theorem dX5_addAll_71 : decode cX5_addAll 71 = .ok (.if_icmp .gt 57, 3) := by decide +kernel
theorem dX5_addAll_74 : decode cX5_addAll 74 = .ok (.aload_n 0, 1) := by decide +kernel
theorem dX5_addAll_75 : decode cX5_addAll 75 = .ok (.aload_n 0, 1) := by decide +kernel
theorem dX5_addAll_76 : decode cX5_addAll 76 = .ok (.getfield 19, 3) := by decide +kernel
theorem dX5_addAll_79 : decode cX5_addAll 79 = .ok (.iconst 3, 1) := by decide +kernel
theorem dX5_addAll_80 : decode cX5_addAll 80 = .ok (.iload_n 2, 1) := by decide +kernel
theorem dX5_addAll_81 : decode cX5_addAll 81 = .ok (.imul, 1) := by decide +kernel
theorem dX5_addAll_82 : decode cX5_addAll 82 = .ok (.iaload, 1) := by decide +kernel
theorem dX5_addAll_83 : decode cX5_addAll 83 = .ok (.invokevirtual 88, 3) := by decide +kernel
theorem dX5_addAll_86 : decode cX5_addAll 86 = .ok (.ifCond .eq 42, 3) := by decide +kernel
theorem dX5_addAll_89 : decode cX5_addAll 89 = .ok (.aload_n 0, 1) := by decide +kernel
theorem dX5_addAll_90 : decode cX5_addAll 90 = .ok (.aload_n 0, 1) := by decide +kernel
theorem dX5_addAll_91 : decode cX5_addAll 91 = .ok (.getfield 19, 3) := by decide +kernel
theorem dX5_addAll_94 : decode cX5_addAll 94 = .ok (.iconst 3, 1) := by decide +kernel
theorem dX5_addAll_95 : decode cX5_addAll 95 = .ok (.iload_n 2, 1) := by decide +kernel
theorem dX5_addAll_96 : decode cX5_addAll 96 = .ok (.imul, 1) := by decide +kernel
theorem dX5_addAll_97 : decode cX5_addAll 97 = .ok (.iaload, 1) := by decide +kernel
theorem dX5_addAll_98 : decode cX5_addAll 98 = .ok (.aload_n 0, 1) := by decide +kernel
theorem dX5_addAll_99 : decode cX5_addAll 99 = .ok (.getfield 19, 3) := by decide +kernel
theorem dX5_addAll_102 : decode cX5_addAll 102 = .ok (.iconst 3, 1) := by decide +kernel
theorem dX5_addAll_103 : decode cX5_addAll 103 = .ok (.iload_n 2, 1) := by decide +kernel
theorem dX5_addAll_104 : decode cX5_addAll 104 = .ok (.imul, 1) := by decide +kernel
theorem dX5_addAll_105 : decode cX5_addAll 105 = .ok (.iconst 1, 1) := by decide +kernel
theorem dX5_addAll_106 : decode cX5_addAll 106 = .ok (.iadd, 1) := by decide +kernel
theorem dX5_addAll_107 : decode cX5_addAll 107 = .ok (.iaload, 1) := by decide +kernel
theorem dX5_addAll_108 : decode cX5_addAll 108 = .ok (.aload_n 0, 1) := by decide +kernel
theorem dX5_addAll_109 : decode cX5_addAll 109 = .ok (.getfield 19, 3) := by decide +kernel
theorem dX5_addAll_112 : decode cX5_addAll 112 = .ok (.iconst 3, 1) := by decide +kernel
theorem dX5_addAll_113 : decode cX5_addAll 113 = .ok (.iload_n 2, 1) := by decide +kernel
theorem dX5_addAll_114 : decode cX5_addAll 114 = .ok (.imul, 1) := by decide +kernel
theorem dX5_addAll_115 : decode cX5_addAll 115 = .ok (.iconst 2, 1) := by decide +kernel
theorem dX5_addAll_116 : decode cX5_addAll 116 = .ok (.iadd, 1) := by decide +kernel
theorem dX5_addAll_117 : decode cX5_addAll 117 = .ok (.iaload, 1) := by decide +kernel
theorem dX5_addAll_118 : decode cX5_addAll 118 = .ok (.invokevirtual 94, 3) := by decide +kernel
theorem dX5_addAll_121 : decode cX5_addAll 121 = .ok (.istore_n 3, 1) := by decide +kernel
theorem dX5_addAll_122 : decode cX5_addAll 122 = .ok (.iinc 2 1, 3) := by decide +kernel
theorem dX5_addAll_125 : decode cX5_addAll 125 = .ok (.goto (-59), 3) := by decide +kernel
theorem dX5_addAll_128 : decode cX5_addAll 128 = .ok (.iload_n 2, 1) := by decide +kernel
theorem dX5_addAll_129 : decode cX5_addAll 129 = .ok (.ireturn, 1) := by decide +kernel
theorem dX5_undo_0 : decode cX5_undo 0 = .ok (.aload_n 0, 1) := by decide +kernel
theorem dX5_undo_1 : decode cX5_undo 1 = .ok (.aload_n 0, 1) := by decide +kernel
theorem dX5_undo_2 : decode cX5_undo 2 = .ok (.getfield 29, 3) := by decide +kernel
theorem dX5_undo_5 : decode cX5_undo 5 = .ok (.ifCond .le 7, 3) := by decide +kernel
theorem dX5_undo_8 : decode cX5_undo 8 = .ok (.iconst 0, 1) := by decide +kernel
theorem dX5_undo_9 : decode cX5_undo 9 = .ok (.goto 4, 3) := by decide +kernel
theorem dX5_undo_12 : decode cX5_undo 12 = .ok (.iconst 1, 1) := by decide +kernel
theorem dX5_undo_13 : decode cX5_undo 13 = .ok (.putfield 25, 3) := by decide +kernel
theorem dX5_undo_16 : decode cX5_undo 16 = .ok (.aload_n 0, 1) := by decide +kernel
theorem dX5_undo_17 : decode cX5_undo 17 = .ok (.getfield 25, 3) := by decide +kernel
theorem dX5_undo_20 : decode cX5_undo 20 = .ok (.ifCond .le 5, 3) := by decide +kernel
theorem dX5_undo_23 : decode cX5_undo 23 = .ok (.iconst 0, 1) := by decide +kernel
theorem dX5_undo_24 : decode cX5_undo 24 = .ok (.ireturn, 1) := by decide +kernel
theorem dX5_undo_25 : decode cX5_undo 25 = .ok (.aload_n 0, 1) := by decide +kernel
theorem dX5_undo_26 : decode cX5_undo 26 = .ok (.dup, 1) := by decide +kernel
theorem dX5_undo_27 : decode cX5_undo 27 = .ok (.getfield 29, 3) := by decide +kernel
theorem dX5_undo_30 : decode cX5_undo 30 = .ok (.iconst 1, 1) := by decide +kernel
theorem dX5_undo_31 : decode cX5_undo 31 = .ok (.isub, 1) := by decide +kernel
theorem dX5_undo_32 : decode cX5_undo 32 = .ok (.putfield 29, 3) := by decide +kernel
theorem dX5_undo_35 : decode cX5_undo 35 = .ok (.iconst 0, 1) := by decide +kernel
theorem dX5_undo_36 : decode cX5_undo 36 = .ok (.istore_n 1, 1) := by decide +kernel
theorem dX5_undo_37 : decode cX5_undo 37 = .ok (.iload_n 1, 1) := by decide +kernel
theorem dX5_undo_38 : decode cX5_undo 38 = .ok (.bipush 57, 2) := by decide +kernel
theorem dX5_undo_40 : decode cX5_undo 40 = .ok (.if_icmp .ge 29, 3) := by decide +kernel
theorem dX5_undo_43 : decode cX5_undo 43 = .ok (.aload_n 0, 1) := by decide +kernel
theorem dX5_undo_44 : decode cX5_undo 44 = .ok (.getfield 7, 3) := by decide +kernel
theorem dX5_undo_47 : decode cX5_undo 47 = .ok (.iload_n 1, 1) := by decide +kernel
theorem dX5_undo_48 : decode cX5_undo 48 = .ok (.aload_n 0, 1) := by decide +kernel
theorem dX5_undo_49 : decode cX5_undo 49 = .ok (.getfield 13, 3) := by decide +kernel
theorem dX5_undo_52 : decode cX5_undo 52 = .ok (.bipush 57, 2) := by decide +kernel
theorem dX5_undo_54 : decode cX5_undo 54 = .ok (.aload_n 0, 1) := by decide +kernel
theorem dX5_undo_55 : decode cX5_undo 55 = .ok (.getfield 29, 3) := by decide +kernel
theorem dX5_undo_58 : decode cX5_undo 58 = .ok (.imul, 1) := by decide +kernel
theorem dX5_undo_59 : decode cX5_undo 59 = .ok (.iload_n 1, 1) := by decide +kernel
theorem dX5_undo_60 : decode cX5_undo 60 = .ok (.iadd, 1) := by decide +kernel
theorem dX5_undo_61 : decode cX5_undo 61 = .ok (.iaload, 1) := by decide +kernel
theorem dX5_undo_62 : decode cX5_undo 62 = .ok (.iastore, 1) := by decide +kernel
theorem dX5_undo_63 : decode cX5_undo 63 = .ok (.iinc 1 1, 3) := by decide +kernel
theorem dX5_undo_66 : decode cX5_undo 66 = .ok (.goto (-29), 3) := by decide +kernel
theorem dX5_undo_69 : decode cX5_undo 69 = .ok (.aload_n 0, 1) := by decide +kernel
theorem dX5_undo_70 : decode cX5_undo 70 = .ok (.getfield 29, 3) := by decide +kernel
theorem dX5_undo_73 : decode cX5_undo 73 = .ok (.ireturn, 1) := by decide +kernel
set_option maxRecDepth 20000 in
theorem ggX5_seeingIn_X5_of : GoodIn wsX5_seeingIn wsX5_of := goodIn_r _ [5, 6, 50, 51, 52, 53, 54, 55, 56, 57, 58, 59, 60, 61] (by decide +kernel) (by decide +kernel)
set_option maxRecDepth 20000 in
theorem gX5_seeingIn_X5_of : GoodIn wsX5_seeingIn (wsV RX5 40 RX5 yX5_of wsX5_of) := goodIn_app (goodIn_of _ (by decide +kernel)) ggX5_seeingIn_X5_of
set_option maxRecDepth 20000 in
theorem ggX5_seeingIn_X5_isTaken : GoodIn wsX5_seeingIn wsX5_isTaken := goodIn_r _ [10, 1, 2, 3, 4, 5, 6, 50, 51, 52, 53, 54, 55, 56, 57, 58, 59, 60, 61] (by decide +kernel) (by decide +kernel)
set_option maxRecDepth 20000 in
theorem gX5_seeingIn_X5_isTaken : GoodIn wsX5_seeingIn (wsV RX5 58 RX5 yX5_isTaken wsX5_isTaken) := goodIn_app (goodIn_of _ (by decide +kernel)) ggX5_seeingIn_X5_isTaken
set_option maxRecDepth 20000 in
theorem ggX5_seeingIn_X5_sees : GoodIn wsX5_seeingIn wsX5_sees := goodIn_r _ [14, 15, 16, 17, 4, 18, 19, 20, 21, 22, 1, 2, 3, 5, 6, 7, 8, 9, 10, 23, 24, 25, 26, 27, 28, 29, 30, 31, 32, 33, 34, 35, 36, 37, 38, 39, 40, 41, 42, 43, 44, 45, 46, 47, 48, 49, 50, 51, 52, 53, 54, 55, 56, 57, 58, 59, 60, 61] (by decide +kernel) (by decide +kernel)
set_option maxRecDepth 20000 in
theorem gX5_seeingIn_X5_sees : GoodIn wsX5_seeingIn (wsV RX5 152 RX5 yX5_sees wsX5_sees) := goodIn_app (goodIn_of _ (by decide +kernel)) ggX5_seeingIn_X5_sees
theorem dX5_seeingIn_0 : decode cX5_seeingIn 0 = .ok (.iconst 0, 1) := by decide +kernel
theorem dX5_seeingIn_1 : decode cX5_seeingIn 1 = .ok (.istore_n 3, 1) := by decide +kernel
theorem dX5_seeingIn_2 : decode cX5_seeingIn 2 = .ok (.iconst 0, 1) := by decide +kernel
theorem dX5_seeingIn_3 : decode cX5_seeingIn 3 = .ok (.istore 4, 2) := by decide +kernel
theorem dX5_seeingIn_5 : decode cX5_seeingIn 5 = .ok (.iload 4, 2) := by decide +kernel
theorem dX5_seeingIn_7 : decode cX5_seeingIn 7 = .ok (.aload_n 0, 1) := by decide +kernel
theorem dX5_seeingIn_8 : decode cX5_seeingIn 8 = .ok (.iload_n 1, 1) := by decide +kernel
theorem dX5_seeingIn_9 : decode cX5_seeingIn 9 = .ok (.iconst 2, 1) := by decide +kernel
theorem dX5_seeingIn_10 : decode cX5_seeingIn 10 = .ok (.invokevirtual 40, 3) := by decide +kernel
theorem dX5_seeingIn_13 : decode cX5_seeingIn 13 = .ok (.if_icmp .ge 41, 3) := by decide +kernel
theorem dX5_seeingIn_16 : decode cX5_seeingIn 16 = .ok (.iload_n 3, 1) := by decide +kernel
theorem dX5_seeingIn_17 : decode cX5_seeingIn 17 = .ok (.iload_n 2, 1) := by decide +kernel
theorem dX5_seeingIn_18 : decode cX5_seeingIn 18 = .ok (.ifCond .eq 13, 3) := by decide +kernel
theorem dX5_seeingIn_21 : decode cX5_seeingIn 21 = .ok (.aload_n 0, 1) := by decide +kernel
theorem dX5_seeingIn_22 : decode cX5_seeingIn 22 = .ok (.iload_n 1, 1) := by decide +kernel
theorem dX5_seeingIn_23 : decode cX5_seeingIn 23 = .ok (.iload 4, 2) := by decide +kernel
theorem dX5_seeingIn_25 : decode cX5_seeingIn 25 = .ok (.invokevirtual 58, 3) := by decide +kernel
theorem dX5_seeingIn_28 : decode cX5_seeingIn 28 = .ok (.ifCond .eq 17, 3) := by decide +kernel
theorem dX5_seeingIn_31 : decode cX5_seeingIn 31 = .ok (.aload_n 0, 1) := by decide +kernel
theorem dX5_seeingIn_32 : decode cX5_seeingIn 32 = .ok (.iload_n 1, 1) := by decide +kernel
theorem dX5_seeingIn_33 : decode cX5_seeingIn 33 = .ok (.iload 4, 2) := by decide +kernel
theorem dX5_seeingIn_35 : decode cX5_seeingIn 35 = .ok (.invokevirtual 152, 3) := by decide +kernel
theorem dX5_seeingIn_38 : decode cX5_seeingIn 38 = .ok (.ifCond .eq 7, 3) := by decide +kernel
theorem dX5_seeingIn_41 : decode cX5_seeingIn 41 = .ok (.iconst 1, 1) := by decide +kernel
theorem dX5_seeingIn_42 : decode cX5_seeingIn 42 = .ok (.goto 4, 3) := by decide +kernel
theorem dX5_seeingIn_45 : decode cX5_seeingIn 45 = .ok (.iconst 0, 1) := by decide +kernel
theorem dX5_seeingIn_46 : decode cX5_seeingIn 46 = .ok (.iadd, 1) := by decide +kernel
theorem dX5_seeingIn_47 : decode cX5_seeingIn 47 = .ok (.istore_n 3, 1) := by decide +kernel
theorem dX5_seeingIn_48 : decode cX5_seeingIn 48 = .ok (.iinc 4 1, 3) := by decide +kernel
theorem dX5_seeingIn_51 : decode cX5_seeingIn 51 = .ok (.goto (-46), 3) := by decide +kernel
theorem dX5_seeingIn_54 : decode cX5_seeingIn 54 = .ok (.iload_n 3, 1) := by decide +kernel
theorem dX5_seeingIn_55 : decode cX5_seeingIn 55 = .ok (.ireturn, 1) := by decide +kernel
set_option maxRecDepth 20000 in
theorem ggX5_seeing_X5_seeingIn : GoodIn wsX5_seeing wsX5_seeingIn := goodIn_r _ [6, 7, 8, 9, 5, 10, 1, 11, 12, 13, 14, 15, 16, 17, 18, 19, 20, 21, 22, 23, 24, 25, 26, 27, 28, 29, 30, 31, 32, 33, 34, 35, 36, 37, 38, 39, 40, 41, 42, 43, 44, 45, 46, 47, 48, 49, 50, 51, 52, 53, 54, 55, 56, 57, 58, 59, 60, 61, 62, 63, 64, 65] (by decide +kernel) (by decide +kernel)
set_option maxRecDepth 20000 in
theorem gX5_seeing_X5_seeingIn : GoodIn wsX5_seeing (wsV RX5 155 RX5 yX5_seeingIn wsX5_seeingIn) := goodIn_app (goodIn_of _ (by decide +kernel)) ggX5_seeing_X5_seeingIn
theorem dX5_seeing_0 : decode cX5_seeing 0 = .ok (.iconst 0, 1) := by decide +kernel
theorem dX5_seeing_1 : decode cX5_seeing 1 = .ok (.istore_n 2, 1) := by decide +kernel
theorem dX5_seeing_2 : decode cX5_seeing 2 = .ok (.iconst 0, 1) := by decide +kernel
theorem dX5_seeing_3 : decode cX5_seeing 3 = .ok (.istore_n 3, 1) := by decide +kernel
theorem dX5_seeing_4 : decode cX5_seeing 4 = .ok (.iload_n 3, 1) := by decide +kernel
theorem dX5_seeing_5 : decode cX5_seeing 5 = .ok (.aload_n 0, 1) := by decide +kernel
theorem dX5_seeing_6 : decode cX5_seeing 6 = .ok (.getfield 7, 3) := by decide +kernel
theorem dX5_seeing_9 : decode cX5_seeing 9 = .ok (.iconst 3, 1) := by decide +kernel
theorem dX5_seeing_10 : decode cX5_seeing 10 = .ok (.iaload, 1) := by decide +kernel
theorem dX5_seeing_11 : decode cX5_seeing 11 = .ok (.if_icmp .ge 18, 3) := by decide +kernel
theorem dX5_seeing_14 : decode cX5_seeing 14 = .ok (.iload_n 2, 1) := by decide +kernel
theorem dX5_seeing_15 : decode cX5_seeing 15 = .ok (.aload_n 0, 1) := by decide +kernel
theorem dX5_seeing_16 : decode cX5_seeing 16 = .ok (.iload_n 3, 1) := by decide +kernel
theorem dX5_seeing_17 : decode cX5_seeing 17 = .ok (.iload_n 1, 1) := by decide +kernel
theorem dX5_seeing_18 : decode cX5_seeing 18 = .ok (.invokevirtual 155, 3) := by decide +kernel
theorem dX5_seeing_21 : decode cX5_seeing 21 = .ok (.iadd, 1) := by decide +kernel
theorem dX5_seeing_22 : decode cX5_seeing 22 = .ok (.istore_n 2, 1) := by decide +kernel
theorem dX5_seeing_23 : decode cX5_seeing 23 = .ok (.iinc 3 1, 3) := by decide +kernel
theorem dX5_seeing_26 : decode cX5_seeing 26 = .ok (.goto (-22), 3) := by decide +kernel
theorem dX5_seeing_29 : decode cX5_seeing 29 = .ok (.iload_n 2, 1) := by decide +kernel
theorem dX5_seeing_30 : decode cX5_seeing 30 = .ok (.ireturn, 1) := by decide +kernel
set_option maxRecDepth 20000 in
theorem ggX5_rowNow_X5_of : GoodIn wsX5_rowNow wsX5_of := goodIn_r _ [5, 6, 58, 59, 60, 61, 62, 63, 64, 65, 66, 67, 68, 69] (by decide +kernel) (by decide +kernel)
set_option maxRecDepth 20000 in
theorem gX5_rowNow_X5_of : GoodIn wsX5_rowNow (wsV RX5 40 RX5 yX5_of wsX5_of) := goodIn_app (goodIn_of _ (by decide +kernel)) ggX5_rowNow_X5_of
set_option maxRecDepth 20000 in
theorem ggX5_rowNow_X5_takenIn : GoodIn wsX5_rowNow wsX5_takenIn := goodIn_r _ [10, 1, 2, 3, 4, 5, 6, 11, 12, 13, 14, 58, 59, 60, 61, 62, 63, 64, 65, 66, 67, 68, 69] (by decide +kernel) (by decide +kernel)
set_option maxRecDepth 20000 in
theorem gX5_rowNow_X5_takenIn : GoodIn wsX5_rowNow (wsV RX5 110 RX5 yX5_takenIn wsX5_takenIn) := goodIn_app (goodIn_of _ (by decide +kernel)) ggX5_rowNow_X5_takenIn
set_option maxRecDepth 20000 in
theorem ggX5_rowNow_X5_seeingIn : GoodIn wsX5_rowNow wsX5_seeingIn := goodIn_r _ [18, 1, 2, 3, 4, 5, 6, 11, 12, 13, 14, 19, 20, 21, 22, 23, 24, 25, 26, 27, 28, 29, 30, 31, 32, 33, 34, 35, 36, 37, 38, 39, 40, 41, 42, 43, 44, 45, 46, 47, 48, 49, 50, 51, 52, 53, 54, 55, 56, 57, 58, 59, 60, 61, 62, 63, 64, 65, 66, 67, 68, 69] (by decide +kernel) (by decide +kernel)
set_option maxRecDepth 20000 in
theorem gX5_rowNow_X5_seeingIn : GoodIn wsX5_rowNow (wsV RX5 155 RX5 yX5_seeingIn wsX5_seeingIn) := goodIn_app (goodIn_of _ (by decide +kernel)) ggX5_rowNow_X5_seeingIn
theorem dX5_rowNow_0 : decode cX5_rowNow 0 = .ok (.iload_n 2, 1) := by decide +kernel
theorem dX5_rowNow_1 : decode cX5_rowNow 1 = .ok (.tableswitch 55 0 4 #[35, 35, 35, 42, 48], 35) := by decide +kernel
theorem dX5_rowNow_36 : decode cX5_rowNow 36 = .ok (.aload_n 0, 1) := by decide +kernel
theorem dX5_rowNow_37 : decode cX5_rowNow 37 = .ok (.iload_n 1, 1) := by decide +kernel
theorem dX5_rowNow_38 : decode cX5_rowNow 38 = .ok (.iload_n 2, 1) := by decide +kernel
theorem dX5_rowNow_39 : decode cX5_rowNow 39 = .ok (.invokevirtual 40, 3) := by decide +kernel
theorem dX5_rowNow_42 : decode cX5_rowNow 42 = .ok (.ireturn, 1) := by decide +kernel
theorem dX5_rowNow_43 : decode cX5_rowNow 43 = .ok (.aload_n 0, 1) := by decide +kernel
theorem dX5_rowNow_44 : decode cX5_rowNow 44 = .ok (.iload_n 1, 1) := by decide +kernel
theorem dX5_rowNow_45 : decode cX5_rowNow 45 = .ok (.invokevirtual 110, 3) := by decide +kernel
theorem dX5_rowNow_48 : decode cX5_rowNow 48 = .ok (.ireturn, 1) := by decide +kernel
theorem dX5_rowNow_49 : decode cX5_rowNow 49 = .ok (.aload_n 0, 1) := by decide +kernel
theorem dX5_rowNow_50 : decode cX5_rowNow 50 = .ok (.iload_n 1, 1) := by decide +kernel
theorem dX5_rowNow_51 : decode cX5_rowNow 51 = .ok (.iconst 0, 1) := by decide +kernel
theorem dX5_rowNow_52 : decode cX5_rowNow 52 = .ok (.invokevirtual 155, 3) := by decide +kernel
theorem dX5_rowNow_55 : decode cX5_rowNow 55 = .ok (.ireturn, 1) := by decide +kernel
theorem dX5_rowNow_56 : decode cX5_rowNow 56 = .ok (.aload_n 0, 1) := by decide +kernel
theorem dX5_rowNow_57 : decode cX5_rowNow 57 = .ok (.iload_n 1, 1) := by decide +kernel
theorem dX5_rowNow_58 : decode cX5_rowNow 58 = .ok (.iconst 1, 1) := by decide +kernel
theorem dX5_rowNow_59 : decode cX5_rowNow 59 = .ok (.invokevirtual 40, 3) := by decide +kernel
theorem dX5_rowNow_62 : decode cX5_rowNow 62 = .ok (.iload_n 1, 1) := by decide +kernel
theorem dX5_rowNow_63 : decode cX5_rowNow 63 = .ok (.ifCond .ne 7, 3) := by decide +kernel
theorem dX5_rowNow_66 : decode cX5_rowNow 66 = .ok (.iconst 0, 1) := by decide +kernel
theorem dX5_rowNow_67 : decode cX5_rowNow 67 = .ok (.goto 11, 3) := by decide +kernel
theorem dX5_rowNow_70 : decode cX5_rowNow 70 = .ok (.aload_n 0, 1) := by decide +kernel
theorem dX5_rowNow_71 : decode cX5_rowNow 71 = .ok (.iload_n 1, 1) := by decide +kernel
theorem dX5_rowNow_72 : decode cX5_rowNow 72 = .ok (.iconst 1, 1) := by decide +kernel
theorem dX5_rowNow_73 : decode cX5_rowNow 73 = .ok (.isub, 1) := by decide +kernel
theorem dX5_rowNow_74 : decode cX5_rowNow 74 = .ok (.iconst 1, 1) := by decide +kernel
theorem dX5_rowNow_75 : decode cX5_rowNow 75 = .ok (.invokevirtual 40, 3) := by decide +kernel
theorem dX5_rowNow_78 : decode cX5_rowNow 78 = .ok (.isub, 1) := by decide +kernel
theorem dX5_rowNow_79 : decode cX5_rowNow 79 = .ok (.ireturn, 1) := by decide +kernel
set_option maxRecDepth 20000 in
theorem ggX5_row_X5_isRow : GoodIn wsX5_row wsX5_isRow := goodIn_r _ [6, 7, 8, 9, 5, 10, 70, 71, 72, 73, 74, 75, 76, 77, 78, 79, 80, 81] (by decide +kernel) (by decide +kernel)
set_option maxRecDepth 20000 in
theorem gX5_row_X5_isRow : GoodIn wsX5_row (wsV RX5 36 RX5 yX5_isRow wsX5_isRow) := goodIn_app (goodIn_of _ (by decide +kernel)) ggX5_row_X5_isRow
set_option maxRecDepth 20000 in
theorem ggX5_row_X5_within : GoodIn wsX5_row wsX5_within := goodIn_r _ [10] (by decide +kernel) (by decide +kernel)
set_option maxRecDepth 20000 in
theorem gX5_row_X5_within : GoodIn wsX5_row (va_wsS RX5 32 yX5_within wsX5_within) := goodIn_app (goodIn_of _ (by decide +kernel)) ggX5_row_X5_within
set_option maxRecDepth 20000 in
theorem ggX5_row_X5_rowNow : GoodIn wsX5_row wsX5_rowNow := goodIn_r _ [14, 15, 16, 17, 5, 18, 7, 19, 20, 21, 22, 23, 24, 25, 26, 27, 28, 29, 30, 31, 32, 33, 34, 35, 36, 37, 38, 39, 40, 41, 42, 43, 44, 45, 46, 47, 48, 49, 50, 51, 52, 53, 54, 55, 56, 57, 58, 59, 60, 61, 62, 63, 64, 65, 66, 67, 68, 69, 70, 71, 72, 73, 74, 75, 76, 77, 78, 79, 80, 81] (by decide +kernel) (by decide +kernel)
set_option maxRecDepth 20000 in
theorem gX5_row_X5_rowNow : GoodIn wsX5_row (wsV RX5 159 RX5 yX5_rowNow wsX5_rowNow) := goodIn_app (goodIn_of _ (by decide +kernel)) ggX5_row_X5_rowNow
theorem dX5_row_0 : decode cX5_row 0 = .ok (.aload_n 0, 1) := by decide +kernel
theorem dX5_row_1 : decode cX5_row 1 = .ok (.aload_n 0, 1) := by decide +kernel
theorem dX5_row_2 : decode cX5_row 2 = .ok (.iload_n 1, 1) := by decide +kernel
theorem dX5_row_3 : decode cX5_row 3 = .ok (.invokevirtual 36, 3) := by decide +kernel
theorem dX5_row_6 : decode cX5_row 6 = .ok (.ifCond .ne 7, 3) := by decide +kernel
theorem dX5_row_9 : decode cX5_row 9 = .ok (.iconst 1, 1) := by decide +kernel
theorem dX5_row_10 : decode cX5_row 10 = .ok (.goto 17, 3) := by decide +kernel
theorem dX5_row_13 : decode cX5_row 13 = .ok (.iload_n 2, 1) := by decide +kernel
theorem dX5_row_14 : decode cX5_row 14 = .ok (.iconst 0, 1) := by decide +kernel
theorem dX5_row_15 : decode cX5_row 15 = .ok (.iconst 5, 1) := by decide +kernel
theorem dX5_row_16 : decode cX5_row 16 = .ok (.invokestatic 32, 3) := by decide +kernel
theorem dX5_row_19 : decode cX5_row 19 = .ok (.ifCond .eq 7, 3) := by decide +kernel
theorem dX5_row_22 : decode cX5_row 22 = .ok (.iconst 0, 1) := by decide +kernel
theorem dX5_row_23 : decode cX5_row 23 = .ok (.goto 4, 3) := by decide +kernel
theorem dX5_row_26 : decode cX5_row 26 = .ok (.iconst 2, 1) := by decide +kernel
theorem dX5_row_27 : decode cX5_row 27 = .ok (.putfield 25, 3) := by decide +kernel
theorem dX5_row_30 : decode cX5_row 30 = .ok (.aload_n 0, 1) := by decide +kernel
theorem dX5_row_31 : decode cX5_row 31 = .ok (.getfield 25, 3) := by decide +kernel
theorem dX5_row_34 : decode cX5_row 34 = .ok (.ifCond .le 7, 3) := by decide +kernel
theorem dX5_row_37 : decode cX5_row 37 = .ok (.iconst 0, 1) := by decide +kernel
theorem dX5_row_38 : decode cX5_row 38 = .ok (.goto 9, 3) := by decide +kernel
theorem dX5_row_41 : decode cX5_row 41 = .ok (.aload_n 0, 1) := by decide +kernel
theorem dX5_row_42 : decode cX5_row 42 = .ok (.iload_n 1, 1) := by decide +kernel
theorem dX5_row_43 : decode cX5_row 43 = .ok (.iload_n 2, 1) := by decide +kernel
theorem dX5_row_44 : decode cX5_row 44 = .ok (.invokevirtual 159, 3) := by decide +kernel
theorem dX5_row_47 : decode cX5_row 47 = .ok (.ireturn, 1) := by decide +kernel
set_option maxRecDepth 20000 in
theorem ggX5_blocked_X5_of : GoodIn wsX5_blocked wsX5_of := goodIn_r _ [6, 1, 50, 51, 52, 53, 54, 55, 56, 57, 58, 59, 60, 61] (by decide +kernel) (by decide +kernel)
set_option maxRecDepth 20000 in
theorem gX5_blocked_X5_of : GoodIn wsX5_blocked (wsV RX5 40 RX5 yX5_of wsX5_of) := goodIn_app (goodIn_of _ (by decide +kernel)) ggX5_blocked_X5_of
set_option maxRecDepth 20000 in
theorem ggX5_blocked_X5_isTaken : GoodIn wsX5_blocked wsX5_isTaken := goodIn_r _ [10, 2, 3, 4, 5, 6, 1, 50, 51, 52, 53, 54, 55, 56, 57, 58, 59, 60, 61] (by decide +kernel) (by decide +kernel)
set_option maxRecDepth 20000 in
theorem gX5_blocked_X5_isTaken : GoodIn wsX5_blocked (wsV RX5 58 RX5 yX5_isTaken wsX5_isTaken) := goodIn_app (goodIn_of _ (by decide +kernel)) ggX5_blocked_X5_isTaken
set_option maxRecDepth 20000 in
theorem ggX5_blocked_X5_blocks : GoodIn wsX5_blocked wsX5_blocks := goodIn_r _ [14, 15, 16, 17, 5, 18, 1, 2, 3, 4, 6, 19, 20, 21, 22, 23, 24, 25, 50, 51, 52, 53, 54, 55, 56, 57, 58, 59, 60, 61] (by decide +kernel) (by decide +kernel)
set_option maxRecDepth 20000 in
theorem gX5_blocked_X5_blocks : GoodIn wsX5_blocked (wsV RX5 61 RX5 yX5_blocks wsX5_blocks) := goodIn_app (goodIn_of _ (by decide +kernel)) ggX5_blocked_X5_blocks
set_option maxRecDepth 20000 in
theorem ggX5_blocked_X5_sees : GoodIn wsX5_blocked wsX5_sees := goodIn_r _ [29, 30, 31, 32, 5, 33, 34, 35, 36, 37, 2, 3, 4, 6, 1, 7, 8, 9, 10, 11, 12, 13, 14, 15, 16, 17, 18, 19, 20, 21, 22, 23, 24, 25, 38, 39, 40, 41, 42, 43, 44, 45, 46, 47, 48, 49, 50, 51, 52, 53, 54, 55, 56, 57, 58, 59, 60, 61] (by decide +kernel) (by decide +kernel)
set_option maxRecDepth 20000 in
theorem gX5_blocked_X5_sees : GoodIn wsX5_blocked (wsV RX5 152 RX5 yX5_sees wsX5_sees) := goodIn_app (goodIn_of _ (by decide +kernel)) ggX5_blocked_X5_sees
theorem dX5_blocked_0 : decode cX5_blocked 0 = .ok (.iconst 0, 1) := by decide +kernel
theorem dX5_blocked_1 : decode cX5_blocked 1 = .ok (.istore 4, 2) := by decide +kernel
theorem dX5_blocked_3 : decode cX5_blocked 3 = .ok (.iload_n 1, 1) := by decide +kernel
theorem dX5_blocked_4 : decode cX5_blocked 4 = .ok (.iconst 1, 1) := by decide +kernel
theorem dX5_blocked_5 : decode cX5_blocked 5 = .ok (.iadd, 1) := by decide +kernel
theorem dX5_blocked_6 : decode cX5_blocked 6 = .ok (.istore 5, 2) := by decide +kernel
theorem dX5_blocked_8 : decode cX5_blocked 8 = .ok (.iload 5, 2) := by decide +kernel
theorem dX5_blocked_10 : decode cX5_blocked 10 = .ok (.aload_n 0, 1) := by decide +kernel
theorem dX5_blocked_11 : decode cX5_blocked 11 = .ok (.getfield 7, 3) := by decide +kernel
theorem dX5_blocked_14 : decode cX5_blocked 14 = .ok (.iconst 3, 1) := by decide +kernel
theorem dX5_blocked_15 : decode cX5_blocked 15 = .ok (.iaload, 1) := by decide +kernel
theorem dX5_blocked_16 : decode cX5_blocked 16 = .ok (.if_icmp .ge 91, 3) := by decide +kernel
theorem dX5_blocked_19 : decode cX5_blocked 19 = .ok (.iconst 0, 1) := by decide +kernel
theorem dX5_blocked_20 : decode cX5_blocked 20 = .ok (.istore 6, 2) := by decide +kernel
theorem dX5_blocked_22 : decode cX5_blocked 22 = .ok (.iload 6, 2) := by decide +kernel
theorem dX5_blocked_24 : decode cX5_blocked 24 = .ok (.aload_n 0, 1) := by decide +kernel
theorem dX5_blocked_25 : decode cX5_blocked 25 = .ok (.iload 5, 2) := by decide +kernel
theorem dX5_blocked_27 : decode cX5_blocked 27 = .ok (.iconst 2, 1) := by decide +kernel
theorem dX5_blocked_28 : decode cX5_blocked 28 = .ok (.invokevirtual 40, 3) := by decide +kernel
theorem dX5_blocked_31 : decode cX5_blocked 31 = .ok (.if_icmp .ge 70, 3) := by decide +kernel
theorem dX5_blocked_34 : decode cX5_blocked 34 = .ok (.aload_n 0, 1) := by decide +kernel
theorem dX5_blocked_35 : decode cX5_blocked 35 = .ok (.iload 5, 2) := by decide +kernel
theorem dX5_blocked_37 : decode cX5_blocked 37 = .ok (.iload 6, 2) := by decide +kernel
theorem dX5_blocked_39 : decode cX5_blocked 39 = .ok (.invokevirtual 58, 3) := by decide +kernel
theorem dX5_blocked_42 : decode cX5_blocked 42 = .ok (.ifCond .eq 20, 3) := by decide +kernel
theorem dX5_blocked_45 : decode cX5_blocked 45 = .ok (.aload_n 0, 1) := by decide +kernel
theorem dX5_blocked_46 : decode cX5_blocked 46 = .ok (.iload_n 1, 1) := by decide +kernel
theorem dX5_blocked_47 : decode cX5_blocked 47 = .ok (.iload_n 2, 1) := by decide +kernel
theorem dX5_blocked_48 : decode cX5_blocked 48 = .ok (.iload 5, 2) := by decide +kernel
theorem dX5_blocked_50 : decode cX5_blocked 50 = .ok (.iload 6, 2) := by decide +kernel
theorem dX5_blocked_52 : decode cX5_blocked 52 = .ok (.invokevirtual 61, 3) := by decide +kernel
theorem dX5_blocked_55 : decode cX5_blocked 55 = .ok (.ifCond .eq 7, 3) := by decide +kernel
theorem dX5_blocked_58 : decode cX5_blocked 58 = .ok (.iconst 1, 1) := by decide +kernel
theorem dX5_blocked_59 : decode cX5_blocked 59 = .ok (.goto 4, 3) := by decide +kernel
theorem dX5_blocked_62 : decode cX5_blocked 62 = .ok (.iconst 0, 1) := by decide +kernel
theorem dX5_blocked_63 : decode cX5_blocked 63 = .ok (.istore 7, 2) := by decide +kernel
theorem dX5_blocked_65 : decode cX5_blocked 65 = .ok (.iload 4, 2) := by decide +kernel
theorem dX5_blocked_67 : decode cX5_blocked 67 = .ok (.iload 7, 2) := by decide +kernel
theorem dX5_blocked_69 : decode cX5_blocked 69 = .ok (.ifCond .eq 22, 3) := by decide +kernel
theorem dX5_blocked_72 : decode cX5_blocked 72 = .ok (.iload_n 3, 1) := by decide +kernel
theorem dX5_blocked_73 : decode cX5_blocked 73 = .ok (.ifCond .eq 14, 3) := by decide +kernel
theorem dX5_blocked_76 : decode cX5_blocked 76 = .ok (.aload_n 0, 1) := by decide +kernel
theorem dX5_blocked_77 : decode cX5_blocked 77 = .ok (.iload 5, 2) := by decide +kernel
theorem dX5_blocked_79 : decode cX5_blocked 79 = .ok (.iload 6, 2) := by decide +kernel
theorem dX5_blocked_81 : decode cX5_blocked 81 = .ok (.invokevirtual 152, 3) := by decide +kernel
theorem dX5_blocked_84 : decode cX5_blocked 84 = .ok (.ifCond .eq 7, 3) := by decide +kernel
theorem dX5_blocked_87 : decode cX5_blocked 87 = .ok (.iconst 1, 1) := by decide +kernel
theorem dX5_blocked_88 : decode cX5_blocked 88 = .ok (.goto 4, 3) := by decide +kernel
theorem dX5_blocked_91 : decode cX5_blocked 91 = .ok (.iconst 0, 1) := by decide +kernel
theorem dX5_blocked_92 : decode cX5_blocked 92 = .ok (.iadd, 1) := by decide +kernel
theorem dX5_blocked_93 : decode cX5_blocked 93 = .ok (.istore 4, 2) := by decide +kernel
theorem dX5_blocked_95 : decode cX5_blocked 95 = .ok (.iinc 6 1, 3) := by decide +kernel
theorem dX5_blocked_98 : decode cX5_blocked 98 = .ok (.goto (-76), 3) := by decide +kernel
theorem dX5_blocked_101 : decode cX5_blocked 101 = .ok (.iinc 5 1, 3) := by decide +kernel
theorem dX5_blocked_104 : decode cX5_blocked 104 = .ok (.goto (-96), 3) := by decide +kernel
theorem dX5_blocked_107 : decode cX5_blocked 107 = .ok (.iload 4, 2) := by decide +kernel
theorem dX5_blocked_109 : decode cX5_blocked 109 = .ok (.ireturn, 1) := by decide +kernel
set_option maxRecDepth 20000 in
theorem ggX5_layWays_X5_of : GoodIn wsX5_layWays wsX5_of := goodIn_r _ [7, 1, 47, 48, 49, 50, 51, 52, 53, 54, 55, 56, 57, 58] (by decide +kernel) (by decide +kernel)
set_option maxRecDepth 20000 in
theorem gX5_layWays_X5_of : GoodIn wsX5_layWays (wsV RX5 40 RX5 yX5_of wsX5_of) := goodIn_app (goodIn_of _ (by decide +kernel)) ggX5_layWays_X5_of
set_option maxRecDepth 20000 in
theorem ggX5_layWays_X5_inWay : GoodIn wsX5_layWays wsX5_inWay := goodIn_r _ [11, 12, 13, 14, 6, 15, 3, 4, 5, 7, 1, 16, 17, 18, 19, 20, 21, 22, 23, 24, 25, 26, 27, 28, 29, 30, 31, 32, 33, 34, 35, 36, 37, 38, 39, 40, 41, 42, 43, 44, 45, 46, 47, 48, 49, 50, 51, 52, 53, 54, 55, 56, 57, 58] (by decide +kernel) (by decide +kernel)
set_option maxRecDepth 20000 in
theorem gX5_layWays_X5_inWay : GoodIn wsX5_layWays (wsV RX5 75 RX5 yX5_inWay wsX5_inWay) := goodIn_app (goodIn_of _ (by decide +kernel)) ggX5_layWays_X5_inWay
theorem dX5_layWays_0 : decode cX5_layWays 0 = .ok (.iconst 0, 1) := by decide +kernel
theorem dX5_layWays_1 : decode cX5_layWays 1 = .ok (.istore_n 1, 1) := by decide +kernel
theorem dX5_layWays_2 : decode cX5_layWays 2 = .ok (.iload_n 1, 1) := by decide +kernel
theorem dX5_layWays_3 : decode cX5_layWays 3 = .ok (.aload_n 0, 1) := by decide +kernel
theorem dX5_layWays_4 : decode cX5_layWays 4 = .ok (.getfield 7, 3) := by decide +kernel
theorem dX5_layWays_7 : decode cX5_layWays 7 = .ok (.iconst 3, 1) := by decide +kernel
theorem dX5_layWays_8 : decode cX5_layWays 8 = .ok (.iaload, 1) := by decide +kernel
theorem dX5_layWays_9 : decode cX5_layWays 9 = .ok (.if_icmp .ge 44, 3) := by decide +kernel
theorem dX5_layWays_12 : decode cX5_layWays 12 = .ok (.iconst 0, 1) := by decide +kernel
theorem dX5_layWays_13 : decode cX5_layWays 13 = .ok (.istore_n 2, 1) := by decide +kernel
theorem dX5_layWays_14 : decode cX5_layWays 14 = .ok (.iload_n 2, 1) := by decide +kernel
theorem dX5_layWays_15 : decode cX5_layWays 15 = .ok (.aload_n 0, 1) := by decide +kernel
theorem dX5_layWays_16 : decode cX5_layWays 16 = .ok (.iload_n 1, 1) := by decide +kernel
theorem dX5_layWays_17 : decode cX5_layWays 17 = .ok (.iconst 2, 1) := by decide +kernel
theorem dX5_layWays_18 : decode cX5_layWays 18 = .ok (.invokevirtual 40, 3) := by decide +kernel
theorem dX5_layWays_21 : decode cX5_layWays 21 = .ok (.if_icmp .ge 26, 3) := by decide +kernel
theorem dX5_layWays_24 : decode cX5_layWays 24 = .ok (.aload_n 0, 1) := by decide +kernel
theorem dX5_layWays_25 : decode cX5_layWays 25 = .ok (.getfield 22, 3) := by decide +kernel
theorem dX5_layWays_28 : decode cX5_layWays 28 = .ok (.bipush 12, 2) := by decide +kernel
theorem dX5_layWays_30 : decode cX5_layWays 30 = .ok (.iload_n 1, 1) := by decide +kernel
theorem dX5_layWays_31 : decode cX5_layWays 31 = .ok (.imul, 1) := by decide +kernel
theorem dX5_layWays_32 : decode cX5_layWays 32 = .ok (.iload_n 2, 1) := by decide +kernel
theorem dX5_layWays_33 : decode cX5_layWays 33 = .ok (.iadd, 1) := by decide +kernel
theorem dX5_layWays_34 : decode cX5_layWays 34 = .ok (.aload_n 0, 1) := by decide +kernel
theorem dX5_layWays_35 : decode cX5_layWays 35 = .ok (.iload_n 1, 1) := by decide +kernel
theorem dX5_layWays_36 : decode cX5_layWays 36 = .ok (.iload_n 2, 1) := by decide +kernel
theorem dX5_layWays_37 : decode cX5_layWays 37 = .ok (.invokevirtual 75, 3) := by decide +kernel
theorem dX5_layWays_40 : decode cX5_layWays 40 = .ok (.iastore, 1) := by decide +kernel
theorem dX5_layWays_41 : decode cX5_layWays 41 = .ok (.iinc 2 1, 3) := by decide +kernel
theorem dX5_layWays_44 : decode cX5_layWays 44 = .ok (.goto (-30), 3) := by decide +kernel
theorem dX5_layWays_47 : decode cX5_layWays 47 = .ok (.iinc 1 1, 3) := by decide +kernel
theorem dX5_layWays_50 : decode cX5_layWays 50 = .ok (.goto (-48), 3) := by decide +kernel
theorem dX5_layWays_53 : decode cX5_layWays 53 = .ok (.return_, 1) := by decide +kernel
set_option maxRecDepth 20000 in
theorem ggX5_isAhead_X5_sideOf : GoodIn wsX5_isAhead wsX5_sideOf := goodIn_r _ [6, 7, 8, 9, 5, 10, 11, 15, 16, 17, 18, 19, 20, 21, 22, 23, 24, 25, 26] (by decide +kernel) (by decide +kernel)
set_option maxRecDepth 20000 in
theorem gX5_isAhead_X5_sideOf : GoodIn wsX5_isAhead (wsV RX5 48 RX5 yX5_sideOf wsX5_sideOf) := goodIn_app (goodIn_of _ (by decide +kernel)) ggX5_isAhead_X5_sideOf
set_option maxRecDepth 20000 in
theorem ggX5_isAhead_X5_size : GoodIn wsX5_isAhead wsX5_size := goodIn_r _ [14] (by decide +kernel) (by decide +kernel)
set_option maxRecDepth 20000 in
theorem gX5_isAhead_X5_size : GoodIn wsX5_isAhead (va_wsS RX5 51 yX5_size wsX5_size) := goodIn_app (goodIn_of _ (by decide +kernel)) ggX5_isAhead_X5_size
theorem dX5_isAhead_0 : decode cX5_isAhead 0 = .ok (.aload_n 0, 1) := by decide +kernel
theorem dX5_isAhead_1 : decode cX5_isAhead 1 = .ok (.getfield 22, 3) := by decide +kernel
theorem dX5_isAhead_4 : decode cX5_isAhead 4 = .ok (.bipush 12, 2) := by decide +kernel
theorem dX5_isAhead_6 : decode cX5_isAhead 6 = .ok (.iload_n 3, 1) := by decide +kernel
theorem dX5_isAhead_7 : decode cX5_isAhead 7 = .ok (.imul, 1) := by decide +kernel
theorem dX5_isAhead_8 : decode cX5_isAhead 8 = .ok (.iload 4, 2) := by decide +kernel
theorem dX5_isAhead_10 : decode cX5_isAhead 10 = .ok (.iadd, 1) := by decide +kernel
theorem dX5_isAhead_11 : decode cX5_isAhead 11 = .ok (.iaload, 1) := by decide +kernel
theorem dX5_isAhead_12 : decode cX5_isAhead 12 = .ok (.aload_n 0, 1) := by decide +kernel
theorem dX5_isAhead_13 : decode cX5_isAhead 13 = .ok (.getfield 22, 3) := by decide +kernel
theorem dX5_isAhead_16 : decode cX5_isAhead 16 = .ok (.bipush 12, 2) := by decide +kernel
theorem dX5_isAhead_18 : decode cX5_isAhead 18 = .ok (.iload_n 1, 1) := by decide +kernel
theorem dX5_isAhead_19 : decode cX5_isAhead 19 = .ok (.imul, 1) := by decide +kernel
theorem dX5_isAhead_20 : decode cX5_isAhead 20 = .ok (.iload_n 2, 1) := by decide +kernel
theorem dX5_isAhead_21 : decode cX5_isAhead 21 = .ok (.iadd, 1) := by decide +kernel
theorem dX5_isAhead_22 : decode cX5_isAhead 22 = .ok (.iaload, 1) := by decide +kernel
theorem dX5_isAhead_23 : decode cX5_isAhead 23 = .ok (.isub, 1) := by decide +kernel
theorem dX5_isAhead_24 : decode cX5_isAhead 24 = .ok (.istore 5, 2) := by decide +kernel
theorem dX5_isAhead_26 : decode cX5_isAhead 26 = .ok (.iload 5, 2) := by decide +kernel
theorem dX5_isAhead_28 : decode cX5_isAhead 28 = .ok (.ifCond .ne 8, 3) := by decide +kernel
theorem dX5_isAhead_31 : decode cX5_isAhead 31 = .ok (.iload_n 1, 1) := by decide +kernel
theorem dX5_isAhead_32 : decode cX5_isAhead 32 = .ok (.iload_n 3, 1) := by decide +kernel
theorem dX5_isAhead_33 : decode cX5_isAhead 33 = .ok (.if_icmp .eq 24, 3) := by decide +kernel
theorem dX5_isAhead_36 : decode cX5_isAhead 36 = .ok (.iload 5, 2) := by decide +kernel
theorem dX5_isAhead_38 : decode cX5_isAhead 38 = .ok (.ifCond .gt 13, 3) := by decide +kernel
theorem dX5_isAhead_41 : decode cX5_isAhead 41 = .ok (.iload 5, 2) := by decide +kernel
theorem dX5_isAhead_43 : decode cX5_isAhead 43 = .ok (.ifCond .ne 12, 3) := by decide +kernel
theorem dX5_isAhead_46 : decode cX5_isAhead 46 = .ok (.iload_n 1, 1) := by decide +kernel
theorem dX5_isAhead_47 : decode cX5_isAhead 47 = .ok (.iload_n 3, 1) := by decide +kernel
theorem dX5_isAhead_48 : decode cX5_isAhead 48 = .ok (.if_icmp .ge 7, 3) := by decide +kernel
theorem dX5_isAhead_51 : decode cX5_isAhead 51 = .ok (.iconst 1, 1) := by decide +kernel
theorem dX5_isAhead_52 : decode cX5_isAhead 52 = .ok (.goto 4, 3) := by decide +kernel
theorem dX5_isAhead_55 : decode cX5_isAhead 55 = .ok (.iconst 0, 1) := by decide +kernel
theorem dX5_isAhead_56 : decode cX5_isAhead 56 = .ok (.ireturn, 1) := by decide +kernel
theorem dX5_isAhead_57 : decode cX5_isAhead 57 = .ok (.aload_n 0, 1) := by decide +kernel
theorem dX5_isAhead_58 : decode cX5_isAhead 58 = .ok (.iload_n 1, 1) := by decide +kernel
theorem dX5_isAhead_59 : decode cX5_isAhead 59 = .ok (.iload 4, 2) := by decide +kernel
theorem dX5_isAhead_61 : decode cX5_isAhead 61 = .ok (.invokevirtual 48, 3) := by decide +kernel
theorem dX5_isAhead_64 : decode cX5_isAhead 64 = .ok (.invokestatic 51, 3) := by decide +kernel
theorem dX5_isAhead_67 : decode cX5_isAhead 67 = .ok (.aload_n 0, 1) := by decide +kernel
theorem dX5_isAhead_68 : decode cX5_isAhead 68 = .ok (.iload_n 1, 1) := by decide +kernel
theorem dX5_isAhead_69 : decode cX5_isAhead 69 = .ok (.iload_n 2, 1) := by decide +kernel
theorem dX5_isAhead_70 : decode cX5_isAhead 70 = .ok (.invokevirtual 48, 3) := by decide +kernel
theorem dX5_isAhead_73 : decode cX5_isAhead 73 = .ok (.invokestatic 51, 3) := by decide +kernel
theorem dX5_isAhead_76 : decode cX5_isAhead 76 = .ok (.isub, 1) := by decide +kernel
theorem dX5_isAhead_77 : decode cX5_isAhead 77 = .ok (.istore 6, 2) := by decide +kernel
theorem dX5_isAhead_79 : decode cX5_isAhead 79 = .ok (.iload 6, 2) := by decide +kernel
theorem dX5_isAhead_81 : decode cX5_isAhead 81 = .ok (.ifCond .gt 14, 3) := by decide +kernel
theorem dX5_isAhead_84 : decode cX5_isAhead 84 = .ok (.iload 6, 2) := by decide +kernel
theorem dX5_isAhead_86 : decode cX5_isAhead 86 = .ok (.ifCond .ne 13, 3) := by decide +kernel
theorem dX5_isAhead_89 : decode cX5_isAhead 89 = .ok (.iload_n 2, 1) := by decide +kernel
theorem dX5_isAhead_90 : decode cX5_isAhead 90 = .ok (.iload 4, 2) := by decide +kernel
theorem dX5_isAhead_92 : decode cX5_isAhead 92 = .ok (.if_icmp .ge 7, 3) := by decide +kernel
theorem dX5_isAhead_95 : decode cX5_isAhead 95 = .ok (.iconst 1, 1) := by decide +kernel
theorem dX5_isAhead_96 : decode cX5_isAhead 96 = .ok (.goto 4, 3) := by decide +kernel
theorem dX5_isAhead_99 : decode cX5_isAhead 99 = .ok (.iconst 0, 1) := by decide +kernel
theorem dX5_isAhead_100 : decode cX5_isAhead 100 = .ok (.ireturn, 1) := by decide +kernel
set_option maxRecDepth 20000 in
theorem ggX5_seatsAhead_X5_of : GoodIn wsX5_seatsAhead wsX5_of := goodIn_r _ [6, 1, 23, 24, 25, 26, 27, 28, 29, 30, 31, 32, 33, 34] (by decide +kernel) (by decide +kernel)
set_option maxRecDepth 20000 in
theorem gX5_seatsAhead_X5_of : GoodIn wsX5_seatsAhead (wsV RX5 40 RX5 yX5_of wsX5_of) := goodIn_app (goodIn_of _ (by decide +kernel)) ggX5_seatsAhead_X5_of
set_option maxRecDepth 20000 in
theorem ggX5_seatsAhead_X5_isTaken : GoodIn wsX5_seatsAhead wsX5_isTaken := goodIn_r _ [10, 2, 3, 4, 5, 6, 1, 23, 24, 25, 26, 27, 28, 29, 30, 31, 32, 33, 34] (by decide +kernel) (by decide +kernel)
set_option maxRecDepth 20000 in
theorem gX5_seatsAhead_X5_isTaken : GoodIn wsX5_seatsAhead (wsV RX5 58 RX5 yX5_isTaken wsX5_isTaken) := goodIn_app (goodIn_of _ (by decide +kernel)) ggX5_seatsAhead_X5_isTaken
set_option maxRecDepth 20000 in
theorem ggX5_seatsAhead_X5_isAhead : GoodIn wsX5_seatsAhead wsX5_isAhead := goodIn_r _ [14, 15, 16, 17, 18, 5, 19, 2, 3, 4, 6, 1, 20, 21, 22, 23, 24, 25, 26, 27, 28, 29, 30, 31, 32, 33, 34] (by decide +kernel) (by decide +kernel)
set_option maxRecDepth 20000 in
theorem gX5_seatsAhead_X5_isAhead : GoodIn wsX5_seatsAhead (wsV RX5 162 RX5 yX5_isAhead wsX5_isAhead) := goodIn_app (goodIn_of _ (by decide +kernel)) ggX5_seatsAhead_X5_isAhead
theorem dX5_seatsAhead_0 : decode cX5_seatsAhead 0 = .ok (.iconst 0, 1) := by decide +kernel
theorem dX5_seatsAhead_1 : decode cX5_seatsAhead 1 = .ok (.istore 4, 2) := by decide +kernel
theorem dX5_seatsAhead_3 : decode cX5_seatsAhead 3 = .ok (.iconst 0, 1) := by decide +kernel
theorem dX5_seatsAhead_4 : decode cX5_seatsAhead 4 = .ok (.istore 5, 2) := by decide +kernel
theorem dX5_seatsAhead_6 : decode cX5_seatsAhead 6 = .ok (.iload 5, 2) := by decide +kernel
theorem dX5_seatsAhead_8 : decode cX5_seatsAhead 8 = .ok (.aload_n 0, 1) := by decide +kernel
theorem dX5_seatsAhead_9 : decode cX5_seatsAhead 9 = .ok (.getfield 7, 3) := by decide +kernel
theorem dX5_seatsAhead_12 : decode cX5_seatsAhead 12 = .ok (.iconst 3, 1) := by decide +kernel
theorem dX5_seatsAhead_13 : decode cX5_seatsAhead 13 = .ok (.iaload, 1) := by decide +kernel
theorem dX5_seatsAhead_14 : decode cX5_seatsAhead 14 = .ok (.if_icmp .ge 80, 3) := by decide +kernel
theorem dX5_seatsAhead_17 : decode cX5_seatsAhead 17 = .ok (.iconst 0, 1) := by decide +kernel
theorem dX5_seatsAhead_18 : decode cX5_seatsAhead 18 = .ok (.istore 6, 2) := by decide +kernel
theorem dX5_seatsAhead_20 : decode cX5_seatsAhead 20 = .ok (.iload 6, 2) := by decide +kernel
theorem dX5_seatsAhead_22 : decode cX5_seatsAhead 22 = .ok (.aload_n 0, 1) := by decide +kernel
theorem dX5_seatsAhead_23 : decode cX5_seatsAhead 23 = .ok (.iload 5, 2) := by decide +kernel
theorem dX5_seatsAhead_25 : decode cX5_seatsAhead 25 = .ok (.iconst 2, 1) := by decide +kernel
theorem dX5_seatsAhead_26 : decode cX5_seatsAhead 26 = .ok (.invokevirtual 40, 3) := by decide +kernel
theorem dX5_seatsAhead_29 : decode cX5_seatsAhead 29 = .ok (.if_icmp .ge 59, 3) := by decide +kernel
theorem dX5_seatsAhead_32 : decode cX5_seatsAhead 32 = .ok (.iload_n 3, 1) := by decide +kernel
theorem dX5_seatsAhead_33 : decode cX5_seatsAhead 33 = .ok (.ifCond .eq 14, 3) := by decide +kernel
theorem dX5_seatsAhead_36 : decode cX5_seatsAhead 36 = .ok (.aload_n 0, 1) := by decide +kernel
theorem dX5_seatsAhead_37 : decode cX5_seatsAhead 37 = .ok (.iload 5, 2) := by decide +kernel
theorem dX5_seatsAhead_39 : decode cX5_seatsAhead 39 = .ok (.iload 6, 2) := by decide +kernel
theorem dX5_seatsAhead_41 : decode cX5_seatsAhead 41 = .ok (.invokevirtual 58, 3) := by decide +kernel
theorem dX5_seatsAhead_44 : decode cX5_seatsAhead 44 = .ok (.ifCond .ne 7, 3) := by decide +kernel
theorem dX5_seatsAhead_47 : decode cX5_seatsAhead 47 = .ok (.iconst 1, 1) := by decide +kernel
theorem dX5_seatsAhead_48 : decode cX5_seatsAhead 48 = .ok (.goto 4, 3) := by decide +kernel
theorem dX5_seatsAhead_51 : decode cX5_seatsAhead 51 = .ok (.iconst 0, 1) := by decide +kernel
theorem dX5_seatsAhead_52 : decode cX5_seatsAhead 52 = .ok (.istore 7, 2) := by decide +kernel
theorem dX5_seatsAhead_54 : decode cX5_seatsAhead 54 = .ok (.iload 4, 2) := by decide +kernel
theorem dX5_seatsAhead_56 : decode cX5_seatsAhead 56 = .ok (.iload 7, 2) := by decide +kernel
theorem dX5_seatsAhead_58 : decode cX5_seatsAhead 58 = .ok (.ifCond .eq 20, 3) := by decide +kernel
theorem dX5_seatsAhead_61 : decode cX5_seatsAhead 61 = .ok (.aload_n 0, 1) := by decide +kernel
theorem dX5_seatsAhead_62 : decode cX5_seatsAhead 62 = .ok (.iload 5, 2) := by decide +kernel
theorem dX5_seatsAhead_64 : decode cX5_seatsAhead 64 = .ok (.iload 6, 2) := by decide +kernel
theorem dX5_seatsAhead_66 : decode cX5_seatsAhead 66 = .ok (.iload_n 1, 1) := by decide +kernel
theorem dX5_seatsAhead_67 : decode cX5_seatsAhead 67 = .ok (.iload_n 2, 1) := by decide +kernel
theorem dX5_seatsAhead_68 : decode cX5_seatsAhead 68 = .ok (.invokevirtual 162, 3) := by decide +kernel
theorem dX5_seatsAhead_71 : decode cX5_seatsAhead 71 = .ok (.ifCond .eq 7, 3) := by decide +kernel
theorem dX5_seatsAhead_74 : decode cX5_seatsAhead 74 = .ok (.iconst 1, 1) := by decide +kernel
theorem dX5_seatsAhead_75 : decode cX5_seatsAhead 75 = .ok (.goto 4, 3) := by decide +kernel
theorem dX5_seatsAhead_78 : decode cX5_seatsAhead 78 = .ok (.iconst 0, 1) := by decide +kernel
theorem dX5_seatsAhead_79 : decode cX5_seatsAhead 79 = .ok (.iadd, 1) := by decide +kernel
theorem dX5_seatsAhead_80 : decode cX5_seatsAhead 80 = .ok (.istore 4, 2) := by decide +kernel
theorem dX5_seatsAhead_82 : decode cX5_seatsAhead 82 = .ok (.iinc 6 1, 3) := by decide +kernel
theorem dX5_seatsAhead_85 : decode cX5_seatsAhead 85 = .ok (.goto (-65), 3) := by decide +kernel
theorem dX5_seatsAhead_88 : decode cX5_seatsAhead 88 = .ok (.iinc 5 1, 3) := by decide +kernel
theorem dX5_seatsAhead_91 : decode cX5_seatsAhead 91 = .ok (.goto (-85), 3) := by decide +kernel
theorem dX5_seatsAhead_94 : decode cX5_seatsAhead 94 = .ok (.iload 4, 2) := by decide +kernel
theorem dX5_seatsAhead_96 : decode cX5_seatsAhead 96 = .ok (.ireturn, 1) := by decide +kernel
set_option maxRecDepth 20000 in
theorem ggX5_seatNow_X5_sideOf : GoodIn wsX5_seatNow wsX5_sideOf := goodIn_r _ [5, 6, 7, 8, 4, 9, 10, 67, 68, 69, 70, 71, 72, 73, 74, 75, 76, 77, 78] (by decide +kernel) (by decide +kernel)
set_option maxRecDepth 20000 in
theorem gX5_seatNow_X5_sideOf : GoodIn wsX5_seatNow (wsV RX5 48 RX5 yX5_sideOf wsX5_sideOf) := goodIn_app (goodIn_of _ (by decide +kernel)) ggX5_seatNow_X5_sideOf
set_option maxRecDepth 20000 in
theorem ggX5_seatNow_X5_isTaken : GoodIn wsX5_seatNow wsX5_isTaken := goodIn_r _ [14, 6, 7, 8, 4, 9, 10, 67, 68, 69, 70, 71, 72, 73, 74, 75, 76, 77, 78] (by decide +kernel) (by decide +kernel)
set_option maxRecDepth 20000 in
theorem gX5_seatNow_X5_isTaken : GoodIn wsX5_seatNow (wsV RX5 58 RX5 yX5_isTaken wsX5_isTaken) := goodIn_app (goodIn_of _ (by decide +kernel)) ggX5_seatNow_X5_isTaken
set_option maxRecDepth 20000 in
theorem ggX5_seatNow_X5_peopleInWay : GoodIn wsX5_seatNow wsX5_peopleInWay := goodIn_r _ [18, 6, 7, 8, 4, 9, 10, 11, 12, 13, 14, 19, 20, 21, 22, 23, 24, 25, 26, 1, 2, 3, 5, 27, 28, 29, 67, 68, 69, 70, 71, 72, 73, 74, 75, 76, 77, 78] (by decide +kernel) (by decide +kernel)
set_option maxRecDepth 20000 in
theorem gX5_seatNow_X5_peopleInWay : GoodIn wsX5_seatNow (wsV RX5 68 RX5 yX5_peopleInWay wsX5_peopleInWay) := goodIn_app (goodIn_of _ (by decide +kernel)) ggX5_seatNow_X5_peopleInWay
set_option maxRecDepth 20000 in
theorem ggX5_seatNow_X5_columnsInWay : GoodIn wsX5_seatNow wsX5_columnsInWay := goodIn_r _ [33, 10, 34, 35, 36, 4, 37, 38, 39, 40, 41, 6, 7, 8, 9, 1, 2, 3, 5, 27, 28, 29, 67, 68, 69, 70, 71, 72, 73, 74, 75, 76, 77, 78] (by decide +kernel) (by decide +kernel)
set_option maxRecDepth 20000 in
theorem gX5_seatNow_X5_columnsInWay : GoodIn wsX5_seatNow (wsV RX5 71 RX5 yX5_columnsInWay wsX5_columnsInWay) := goodIn_app (goodIn_of _ (by decide +kernel)) ggX5_seatNow_X5_columnsInWay
set_option maxRecDepth 20000 in
theorem ggX5_seatNow_X5_sees : GoodIn wsX5_seatNow wsX5_sees := goodIn_r _ [45, 46, 47, 48, 4, 49, 15, 16, 17, 18, 6, 7, 8, 9, 10, 11, 12, 13, 14, 19, 20, 21, 22, 23, 24, 25, 26, 1, 2, 3, 5, 27, 28, 29, 30, 31, 32, 33, 34, 35, 36, 37, 38, 39, 40, 41, 67, 68, 69, 70, 71, 72, 73, 74, 75, 76, 77, 78] (by decide +kernel) (by decide +kernel)
set_option maxRecDepth 20000 in
theorem gX5_seatNow_X5_sees : GoodIn wsX5_seatNow (wsV RX5 152 RX5 yX5_sees wsX5_sees) := goodIn_app (goodIn_of _ (by decide +kernel)) ggX5_seatNow_X5_sees
set_option maxRecDepth 20000 in
theorem ggX5_seatNow_X5_blocked : GoodIn wsX5_seatNow wsX5_blocked := goodIn_r _ [53, 10, 6, 7, 8, 4, 9, 11, 12, 13, 14, 19, 20, 21, 22, 23, 24, 25, 26, 1, 2, 3, 5, 27, 28, 29, 42, 43, 44, 45, 46, 47, 48, 49, 15, 16, 17, 18, 30, 31, 32, 33, 34, 35, 36, 37, 38, 39, 40, 41, 67, 68, 69, 70, 71, 72, 73, 74, 75, 76, 77, 78] (by decide +kernel) (by decide +kernel)
set_option maxRecDepth 20000 in
theorem gX5_seatNow_X5_blocked : GoodIn wsX5_seatNow (wsV RX5 165 RX5 yX5_blocked wsX5_blocked) := goodIn_app (goodIn_of _ (by decide +kernel)) ggX5_seatNow_X5_blocked
set_option maxRecDepth 20000 in
theorem ggX5_seatNow_X5_layWays : GoodIn wsX5_seatNow wsX5_layWays := goodIn_r _ [57, 10, 58, 6, 7, 8, 4, 9, 46, 47, 48, 49, 15, 16, 17, 18, 11, 12, 13, 14, 19, 20, 21, 22, 23, 24, 25, 26, 1, 2, 3, 5, 27, 28, 29, 30, 31, 32, 33, 34, 35, 36, 37, 38, 39, 40, 41, 67, 68, 69, 70, 71, 72, 73, 74, 75, 76, 77, 78] (by decide +kernel) (by decide +kernel)
set_option maxRecDepth 20000 in
theorem gX5_seatNow_X5_layWays : GoodIn wsX5_seatNow (wsV RX5 169 RX5 yX5_layWays wsX5_layWays) := goodIn_app (goodIn_of _ (by decide +kernel)) ggX5_seatNow_X5_layWays
set_option maxRecDepth 20000 in
theorem ggX5_seatNow_X5_seatsAhead : GoodIn wsX5_seatNow wsX5_seatsAhead := goodIn_r _ [62, 10, 6, 7, 8, 4, 9, 11, 12, 13, 14, 63, 64, 65, 66, 58, 1, 2, 3, 5, 27, 28, 29, 67, 68, 69, 70, 71, 72, 73, 74, 75, 76, 77, 78] (by decide +kernel) (by decide +kernel)
set_option maxRecDepth 20000 in
theorem gX5_seatNow_X5_seatsAhead : GoodIn wsX5_seatNow (wsV RX5 172 RX5 yX5_seatsAhead wsX5_seatsAhead) := goodIn_app (goodIn_of _ (by decide +kernel)) ggX5_seatNow_X5_seatsAhead
theorem dX5_seatNow_0 : decode cX5_seatNow 0 = .ok (.iload_n 3, 1) := by decide +kernel
theorem dX5_seatNow_1 : decode cX5_seatNow 1 = .ok (.tableswitch 99 0 5 #[39, 46, 61, 68, 76, 91], 39) := by decide +kernel
theorem dX5_seatNow_40 : decode cX5_seatNow 40 = .ok (.aload_n 0, 1) := by decide +kernel
theorem dX5_seatNow_41 : decode cX5_seatNow 41 = .ok (.iload_n 1, 1) := by decide +kernel
theorem dX5_seatNow_42 : decode cX5_seatNow 42 = .ok (.iload_n 2, 1) := by decide +kernel
theorem dX5_seatNow_43 : decode cX5_seatNow 43 = .ok (.invokevirtual 48, 3) := by decide +kernel
theorem dX5_seatNow_46 : decode cX5_seatNow 46 = .ok (.ireturn, 1) := by decide +kernel
theorem dX5_seatNow_47 : decode cX5_seatNow 47 = .ok (.aload_n 0, 1) := by decide +kernel
theorem dX5_seatNow_48 : decode cX5_seatNow 48 = .ok (.iload_n 1, 1) := by decide +kernel
theorem dX5_seatNow_49 : decode cX5_seatNow 49 = .ok (.iload_n 2, 1) := by decide +kernel
theorem dX5_seatNow_50 : decode cX5_seatNow 50 = .ok (.invokevirtual 58, 3) := by decide +kernel
theorem dX5_seatNow_53 : decode cX5_seatNow 53 = .ok (.ifCond .eq 7, 3) := by decide +kernel
theorem dX5_seatNow_56 : decode cX5_seatNow 56 = .ok (.iconst 1, 1) := by decide +kernel
theorem dX5_seatNow_57 : decode cX5_seatNow 57 = .ok (.goto 4, 3) := by decide +kernel
theorem dX5_seatNow_60 : decode cX5_seatNow 60 = .ok (.iconst 0, 1) := by decide +kernel
theorem dX5_seatNow_61 : decode cX5_seatNow 61 = .ok (.ireturn, 1) := by decide +kernel
theorem dX5_seatNow_62 : decode cX5_seatNow 62 = .ok (.aload_n 0, 1) := by decide +kernel
theorem dX5_seatNow_63 : decode cX5_seatNow 63 = .ok (.iload_n 1, 1) := by decide +kernel
theorem dX5_seatNow_64 : decode cX5_seatNow 64 = .ok (.iload_n 2, 1) := by decide +kernel
theorem dX5_seatNow_65 : decode cX5_seatNow 65 = .ok (.invokevirtual 68, 3) := by decide +kernel
theorem dX5_seatNow_68 : decode cX5_seatNow 68 = .ok (.ireturn, 1) := by decide +kernel
theorem dX5_seatNow_69 : decode cX5_seatNow 69 = .ok (.aload_n 0, 1) := by decide +kernel
theorem dX5_seatNow_70 : decode cX5_seatNow 70 = .ok (.iload_n 1, 1) := by decide +kernel
theorem dX5_seatNow_71 : decode cX5_seatNow 71 = .ok (.iload_n 2, 1) := by decide +kernel
theorem dX5_seatNow_72 : decode cX5_seatNow 72 = .ok (.iconst (-1), 1) := by decide +kernel
theorem dX5_seatNow_73 : decode cX5_seatNow 73 = .ok (.invokevirtual 71, 3) := by decide +kernel
theorem dX5_seatNow_76 : decode cX5_seatNow 76 = .ok (.ireturn, 1) := by decide +kernel
theorem dX5_seatNow_77 : decode cX5_seatNow 77 = .ok (.aload_n 0, 1) := by decide +kernel
theorem dX5_seatNow_78 : decode cX5_seatNow 78 = .ok (.iload_n 1, 1) := by decide +kernel
theorem dX5_seatNow_79 : decode cX5_seatNow 79 = .ok (.iload_n 2, 1) := by decide +kernel
theorem dX5_seatNow_80 : decode cX5_seatNow 80 = .ok (.invokevirtual 152, 3) := by decide +kernel
theorem dX5_seatNow_83 : decode cX5_seatNow 83 = .ok (.ifCond .eq 7, 3) := by decide +kernel
theorem dX5_seatNow_86 : decode cX5_seatNow 86 = .ok (.iconst 1, 1) := by decide +kernel
theorem dX5_seatNow_87 : decode cX5_seatNow 87 = .ok (.goto 4, 3) := by decide +kernel
theorem dX5_seatNow_90 : decode cX5_seatNow 90 = .ok (.iconst 0, 1) := by decide +kernel
theorem dX5_seatNow_91 : decode cX5_seatNow 91 = .ok (.ireturn, 1) := by decide +kernel
theorem dX5_seatNow_92 : decode cX5_seatNow 92 = .ok (.aload_n 0, 1) := by decide +kernel
theorem dX5_seatNow_93 : decode cX5_seatNow 93 = .ok (.iload_n 1, 1) := by decide +kernel
theorem dX5_seatNow_94 : decode cX5_seatNow 94 = .ok (.iload_n 2, 1) := by decide +kernel
theorem dX5_seatNow_95 : decode cX5_seatNow 95 = .ok (.iconst 0, 1) := by decide +kernel
theorem dX5_seatNow_96 : decode cX5_seatNow 96 = .ok (.invokevirtual 165, 3) := by decide +kernel
theorem dX5_seatNow_99 : decode cX5_seatNow 99 = .ok (.ireturn, 1) := by decide +kernel
theorem dX5_seatNow_100 : decode cX5_seatNow 100 = .ok (.aload_n 0, 1) := by decide +kernel
theorem dX5_seatNow_101 : decode cX5_seatNow 101 = .ok (.invokevirtual 169, 3) := by decide +kernel
theorem dX5_seatNow_104 : decode cX5_seatNow 104 = .ok (.aload_n 0, 1) := by decide +kernel
theorem dX5_seatNow_105 : decode cX5_seatNow 105 = .ok (.iload_n 1, 1) := by decide +kernel
theorem dX5_seatNow_106 : decode cX5_seatNow 106 = .ok (.iload_n 2, 1) := by decide +kernel
theorem dX5_seatNow_107 : decode cX5_seatNow 107 = .ok (.iconst 0, 1) := by decide +kernel
theorem dX5_seatNow_108 : decode cX5_seatNow 108 = .ok (.invokevirtual 172, 3) := by decide +kernel
theorem dX5_seatNow_111 : decode cX5_seatNow 111 = .ok (.ireturn, 1) := by decide +kernel
set_option maxRecDepth 20000 in
theorem ggX5_seat_X5_isSeat : GoodIn wsX5_seat wsX5_isSeat := goodIn_r _ [6, 7, 8, 9, 5, 10, 11, 12, 13, 14, 15, 16, 17, 18, 83, 84, 85, 86, 87, 88, 89, 90, 91, 92, 93, 94] (by decide +kernel) (by decide +kernel)
set_option maxRecDepth 20000 in
theorem gX5_seat_X5_isSeat : GoodIn wsX5_seat (wsV RX5 113 RX5 yX5_isSeat wsX5_isSeat) := goodIn_app (goodIn_of _ (by decide +kernel)) ggX5_seat_X5_isSeat
set_option maxRecDepth 20000 in
theorem ggX5_seat_X5_within : GoodIn wsX5_seat wsX5_within := goodIn_r _ [14] (by decide +kernel) (by decide +kernel)
set_option maxRecDepth 20000 in
theorem gX5_seat_X5_within : GoodIn wsX5_seat (va_wsS RX5 32 yX5_within wsX5_within) := goodIn_app (goodIn_of _ (by decide +kernel)) ggX5_seat_X5_within
set_option maxRecDepth 20000 in
theorem ggX5_seat_X5_seatNow : GoodIn wsX5_seat wsX5_seatNow := goodIn_r _ [22, 23, 24, 25, 5, 26, 15, 16, 17, 18, 11, 27, 28, 29, 30, 31, 32, 33, 34, 35, 36, 37, 38, 39, 40, 41, 42, 43, 44, 45, 46, 47, 48, 49, 50, 51, 52, 53, 54, 55, 56, 57, 58, 59, 60, 61, 62, 63, 64, 65, 66, 67, 68, 69, 70, 71, 72, 73, 74, 75, 76, 77, 78, 79, 80, 81, 82, 83, 84, 85, 86, 87, 88, 89, 90, 91, 92, 93, 94] (by decide +kernel) (by decide +kernel)
set_option maxRecDepth 20000 in
theorem gX5_seat_X5_seatNow : GoodIn wsX5_seat (wsV RX5 175 RX5 yX5_seatNow wsX5_seatNow) := goodIn_app (goodIn_of _ (by decide +kernel)) ggX5_seat_X5_seatNow
theorem dX5_seat_0 : decode cX5_seat 0 = .ok (.aload_n 0, 1) := by decide +kernel
theorem dX5_seat_1 : decode cX5_seat 1 = .ok (.aload_n 0, 1) := by decide +kernel
theorem dX5_seat_2 : decode cX5_seat 2 = .ok (.iload_n 1, 1) := by decide +kernel
theorem dX5_seat_3 : decode cX5_seat 3 = .ok (.iload_n 2, 1) := by decide +kernel
theorem dX5_seat_4 : decode cX5_seat 4 = .ok (.invokevirtual 113, 3) := by decide +kernel
theorem dX5_seat_7 : decode cX5_seat 7 = .ok (.ifCond .ne 7, 3) := by decide +kernel
theorem dX5_seat_10 : decode cX5_seat 10 = .ok (.iconst 1, 1) := by decide +kernel
theorem dX5_seat_11 : decode cX5_seat 11 = .ok (.goto 18, 3) := by decide +kernel
theorem dX5_seat_14 : decode cX5_seat 14 = .ok (.iload_n 3, 1) := by decide +kernel
theorem dX5_seat_15 : decode cX5_seat 15 = .ok (.iconst 0, 1) := by decide +kernel
theorem dX5_seat_16 : decode cX5_seat 16 = .ok (.bipush 6, 2) := by decide +kernel
theorem dX5_seat_18 : decode cX5_seat 18 = .ok (.invokestatic 32, 3) := by decide +kernel
theorem dX5_seat_21 : decode cX5_seat 21 = .ok (.ifCond .eq 7, 3) := by decide +kernel
theorem dX5_seat_24 : decode cX5_seat 24 = .ok (.iconst 0, 1) := by decide +kernel
theorem dX5_seat_25 : decode cX5_seat 25 = .ok (.goto 4, 3) := by decide +kernel
theorem dX5_seat_28 : decode cX5_seat 28 = .ok (.iconst 2, 1) := by decide +kernel
theorem dX5_seat_29 : decode cX5_seat 29 = .ok (.putfield 25, 3) := by decide +kernel
theorem dX5_seat_32 : decode cX5_seat 32 = .ok (.aload_n 0, 1) := by decide +kernel
theorem dX5_seat_33 : decode cX5_seat 33 = .ok (.getfield 25, 3) := by decide +kernel
theorem dX5_seat_36 : decode cX5_seat 36 = .ok (.ifCond .le 7, 3) := by decide +kernel
theorem dX5_seat_39 : decode cX5_seat 39 = .ok (.iconst 0, 1) := by decide +kernel
theorem dX5_seat_40 : decode cX5_seat 40 = .ok (.goto 10, 3) := by decide +kernel
theorem dX5_seat_43 : decode cX5_seat 43 = .ok (.aload_n 0, 1) := by decide +kernel
theorem dX5_seat_44 : decode cX5_seat 44 = .ok (.iload_n 1, 1) := by decide +kernel
theorem dX5_seat_45 : decode cX5_seat 45 = .ok (.iload_n 2, 1) := by decide +kernel
theorem dX5_seat_46 : decode cX5_seat 46 = .ok (.iload_n 3, 1) := by decide +kernel
theorem dX5_seat_47 : decode cX5_seat 47 = .ok (.invokevirtual 175, 3) := by decide +kernel
theorem dX5_seat_50 : decode cX5_seat 50 = .ok (.ireturn, 1) := by decide +kernel
set_option maxRecDepth 20000 in
theorem ggX5_seatsBehind_X5_of : GoodIn wsX5_seatsBehind wsX5_of := goodIn_r _ [6, 1, 22, 23, 24, 25, 26, 27, 28, 29, 30, 31, 32, 33] (by decide +kernel) (by decide +kernel)
set_option maxRecDepth 20000 in
theorem gX5_seatsBehind_X5_of : GoodIn wsX5_seatsBehind (wsV RX5 40 RX5 yX5_of wsX5_of) := goodIn_app (goodIn_of _ (by decide +kernel)) ggX5_seatsBehind_X5_of
set_option maxRecDepth 20000 in
theorem ggX5_seatsBehind_X5_columnBlocks : GoodIn wsX5_seatsBehind wsX5_columnBlocks := goodIn_r _ [10, 11, 12, 13, 5, 14, 1, 2, 3, 4, 6, 15, 16, 17, 18, 19, 20, 21, 22, 23, 24, 25, 26, 27, 28, 29, 30, 31, 32, 33] (by decide +kernel) (by decide +kernel)
set_option maxRecDepth 20000 in
theorem gX5_seatsBehind_X5_columnBlocks : GoodIn wsX5_seatsBehind (wsV RX5 65 RX5 yX5_columnBlocks wsX5_columnBlocks) := goodIn_app (goodIn_of _ (by decide +kernel)) ggX5_seatsBehind_X5_columnBlocks
theorem dX5_seatsBehind_0 : decode cX5_seatsBehind 0 = .ok (.iconst 0, 1) := by decide +kernel
theorem dX5_seatsBehind_1 : decode cX5_seatsBehind 1 = .ok (.istore_n 2, 1) := by decide +kernel
theorem dX5_seatsBehind_2 : decode cX5_seatsBehind 2 = .ok (.iconst 0, 1) := by decide +kernel
theorem dX5_seatsBehind_3 : decode cX5_seatsBehind 3 = .ok (.istore_n 3, 1) := by decide +kernel
theorem dX5_seatsBehind_4 : decode cX5_seatsBehind 4 = .ok (.iload_n 3, 1) := by decide +kernel
theorem dX5_seatsBehind_5 : decode cX5_seatsBehind 5 = .ok (.aload_n 0, 1) := by decide +kernel
theorem dX5_seatsBehind_6 : decode cX5_seatsBehind 6 = .ok (.getfield 7, 3) := by decide +kernel
theorem dX5_seatsBehind_9 : decode cX5_seatsBehind 9 = .ok (.iconst 3, 1) := by decide +kernel
theorem dX5_seatsBehind_10 : decode cX5_seatsBehind 10 = .ok (.iaload, 1) := by decide +kernel
theorem dX5_seatsBehind_11 : decode cX5_seatsBehind 11 = .ok (.if_icmp .ge 48, 3) := by decide +kernel
theorem dX5_seatsBehind_14 : decode cX5_seatsBehind 14 = .ok (.iconst 0, 1) := by decide +kernel
theorem dX5_seatsBehind_15 : decode cX5_seatsBehind 15 = .ok (.istore 4, 2) := by decide +kernel
theorem dX5_seatsBehind_17 : decode cX5_seatsBehind 17 = .ok (.iload 4, 2) := by decide +kernel
theorem dX5_seatsBehind_19 : decode cX5_seatsBehind 19 = .ok (.aload_n 0, 1) := by decide +kernel
theorem dX5_seatsBehind_20 : decode cX5_seatsBehind 20 = .ok (.iload_n 3, 1) := by decide +kernel
theorem dX5_seatsBehind_21 : decode cX5_seatsBehind 21 = .ok (.iconst 2, 1) := by decide +kernel
theorem dX5_seatsBehind_22 : decode cX5_seatsBehind 22 = .ok (.invokevirtual 40, 3) := by decide +kernel
theorem dX5_seatsBehind_25 : decode cX5_seatsBehind 25 = .ok (.if_icmp .ge 28, 3) := by decide +kernel
theorem dX5_seatsBehind_28 : decode cX5_seatsBehind 28 = .ok (.iload_n 2, 1) := by decide +kernel
theorem dX5_seatsBehind_29 : decode cX5_seatsBehind 29 = .ok (.aload_n 0, 1) := by decide +kernel
theorem dX5_seatsBehind_30 : decode cX5_seatsBehind 30 = .ok (.iload_n 1, 1) := by decide +kernel
theorem dX5_seatsBehind_31 : decode cX5_seatsBehind 31 = .ok (.iload_n 3, 1) := by decide +kernel
theorem dX5_seatsBehind_32 : decode cX5_seatsBehind 32 = .ok (.iload 4, 2) := by decide +kernel
theorem dX5_seatsBehind_34 : decode cX5_seatsBehind 34 = .ok (.invokevirtual 65, 3) := by decide +kernel
theorem dX5_seatsBehind_37 : decode cX5_seatsBehind 37 = .ok (.ifCond .eq 7, 3) := by decide +kernel
theorem dX5_seatsBehind_40 : decode cX5_seatsBehind 40 = .ok (.iconst 1, 1) := by decide +kernel
theorem dX5_seatsBehind_41 : decode cX5_seatsBehind 41 = .ok (.goto 4, 3) := by decide +kernel
theorem dX5_seatsBehind_44 : decode cX5_seatsBehind 44 = .ok (.iconst 0, 1) := by decide +kernel
theorem dX5_seatsBehind_45 : decode cX5_seatsBehind 45 = .ok (.iadd, 1) := by decide +kernel
theorem dX5_seatsBehind_46 : decode cX5_seatsBehind 46 = .ok (.istore_n 2, 1) := by decide +kernel
theorem dX5_seatsBehind_47 : decode cX5_seatsBehind 47 = .ok (.iinc 4 1, 3) := by decide +kernel
theorem dX5_seatsBehind_50 : decode cX5_seatsBehind 50 = .ok (.goto (-33), 3) := by decide +kernel
theorem dX5_seatsBehind_53 : decode cX5_seatsBehind 53 = .ok (.iinc 3 1, 3) := by decide +kernel
theorem dX5_seatsBehind_56 : decode cX5_seatsBehind 56 = .ok (.goto (-52), 3) := by decide +kernel
theorem dX5_seatsBehind_59 : decode cX5_seatsBehind 59 = .ok (.iload_n 2, 1) := by decide +kernel
theorem dX5_seatsBehind_60 : decode cX5_seatsBehind 60 = .ok (.ireturn, 1) := by decide +kernel
set_option maxRecDepth 20000 in
theorem ggX5_columnNow_X5_ofColumn : GoodIn wsX5_columnNow wsX5_ofColumn := goodIn_r _ [5, 6, 26, 27, 28, 29, 30, 31, 32, 33, 34, 35, 36, 37] (by decide +kernel) (by decide +kernel)
set_option maxRecDepth 20000 in
theorem gX5_columnNow_X5_ofColumn : GoodIn wsX5_columnNow (wsV RX5 55 RX5 yX5_ofColumn wsX5_ofColumn) := goodIn_app (goodIn_of _ (by decide +kernel)) ggX5_columnNow_X5_ofColumn
set_option maxRecDepth 20000 in
theorem ggX5_columnNow_X5_seatsBehind : GoodIn wsX5_columnNow wsX5_seatsBehind := goodIn_r _ [10, 6, 11, 12, 13, 4, 14, 15, 16, 17, 18, 1, 2, 3, 5, 19, 20, 21, 22, 23, 24, 25, 26, 27, 28, 29, 30, 31, 32, 33, 34, 35, 36, 37] (by decide +kernel) (by decide +kernel)
set_option maxRecDepth 20000 in
theorem gX5_columnNow_X5_seatsBehind : GoodIn wsX5_columnNow (wsV RX5 178 RX5 yX5_seatsBehind wsX5_seatsBehind) := goodIn_app (goodIn_of _ (by decide +kernel)) ggX5_columnNow_X5_seatsBehind
theorem dX5_columnNow_0 : decode cX5_columnNow 0 = .ok (.iload_n 2, 1) := by decide +kernel
theorem dX5_columnNow_1 : decode cX5_columnNow 1 = .ok (.iconst 3, 1) := by decide +kernel
theorem dX5_columnNow_2 : decode cX5_columnNow 2 = .ok (.if_icmp .ge 12, 3) := by decide +kernel
theorem dX5_columnNow_5 : decode cX5_columnNow 5 = .ok (.aload_n 0, 1) := by decide +kernel
theorem dX5_columnNow_6 : decode cX5_columnNow 6 = .ok (.iload_n 1, 1) := by decide +kernel
theorem dX5_columnNow_7 : decode cX5_columnNow 7 = .ok (.iload_n 2, 1) := by decide +kernel
theorem dX5_columnNow_8 : decode cX5_columnNow 8 = .ok (.invokevirtual 55, 3) := by decide +kernel
theorem dX5_columnNow_11 : decode cX5_columnNow 11 = .ok (.goto 8, 3) := by decide +kernel
theorem dX5_columnNow_14 : decode cX5_columnNow 14 = .ok (.aload_n 0, 1) := by decide +kernel
theorem dX5_columnNow_15 : decode cX5_columnNow 15 = .ok (.iload_n 1, 1) := by decide +kernel
theorem dX5_columnNow_16 : decode cX5_columnNow 16 = .ok (.invokevirtual 178, 3) := by decide +kernel
theorem dX5_columnNow_19 : decode cX5_columnNow 19 = .ok (.ireturn, 1) := by decide +kernel
set_option maxRecDepth 20000 in
theorem ggX5_column_X5_isColumn : GoodIn wsX5_column wsX5_isColumn := goodIn_r _ [6, 7, 8, 9, 5, 10, 38, 39, 40, 41, 42, 43, 44, 45, 46, 47, 48, 49] (by decide +kernel) (by decide +kernel)
set_option maxRecDepth 20000 in
theorem gX5_column_X5_isColumn : GoodIn wsX5_column (wsV RX5 101 RX5 yX5_isColumn wsX5_isColumn) := goodIn_app (goodIn_of _ (by decide +kernel)) ggX5_column_X5_isColumn
set_option maxRecDepth 20000 in
theorem ggX5_column_X5_within : GoodIn wsX5_column wsX5_within := goodIn_r _ [10] (by decide +kernel) (by decide +kernel)
set_option maxRecDepth 20000 in
theorem gX5_column_X5_within : GoodIn wsX5_column (va_wsS RX5 32 yX5_within wsX5_within) := goodIn_app (goodIn_of _ (by decide +kernel)) ggX5_column_X5_within
set_option maxRecDepth 20000 in
theorem ggX5_column_X5_columnNow : GoodIn wsX5_column wsX5_columnNow := goodIn_r _ [14, 15, 16, 17, 5, 18, 7, 19, 20, 21, 22, 23, 24, 25, 26, 27, 28, 29, 30, 31, 32, 33, 34, 35, 36, 37, 38, 39, 40, 41, 42, 43, 44, 45, 46, 47, 48, 49] (by decide +kernel) (by decide +kernel)
set_option maxRecDepth 20000 in
theorem gX5_column_X5_columnNow : GoodIn wsX5_column (wsV RX5 181 RX5 yX5_columnNow wsX5_columnNow) := goodIn_app (goodIn_of _ (by decide +kernel)) ggX5_column_X5_columnNow
theorem dX5_column_0 : decode cX5_column 0 = .ok (.aload_n 0, 1) := by decide +kernel
theorem dX5_column_1 : decode cX5_column 1 = .ok (.aload_n 0, 1) := by decide +kernel
theorem dX5_column_2 : decode cX5_column 2 = .ok (.iload_n 1, 1) := by decide +kernel
theorem dX5_column_3 : decode cX5_column 3 = .ok (.invokevirtual 101, 3) := by decide +kernel
theorem dX5_column_6 : decode cX5_column 6 = .ok (.ifCond .ne 7, 3) := by decide +kernel
theorem dX5_column_9 : decode cX5_column 9 = .ok (.iconst 1, 1) := by decide +kernel
theorem dX5_column_10 : decode cX5_column 10 = .ok (.goto 17, 3) := by decide +kernel
theorem dX5_column_13 : decode cX5_column 13 = .ok (.iload_n 2, 1) := by decide +kernel
theorem dX5_column_14 : decode cX5_column 14 = .ok (.iconst 0, 1) := by decide +kernel
theorem dX5_column_15 : decode cX5_column 15 = .ok (.iconst 3, 1) := by decide +kernel
theorem dX5_column_16 : decode cX5_column 16 = .ok (.invokestatic 32, 3) := by decide +kernel
theorem dX5_column_19 : decode cX5_column 19 = .ok (.ifCond .eq 7, 3) := by decide +kernel
theorem dX5_column_22 : decode cX5_column 22 = .ok (.iconst 0, 1) := by decide +kernel
theorem dX5_column_23 : decode cX5_column 23 = .ok (.goto 4, 3) := by decide +kernel
theorem dX5_column_26 : decode cX5_column 26 = .ok (.iconst 2, 1) := by decide +kernel
theorem dX5_column_27 : decode cX5_column 27 = .ok (.putfield 25, 3) := by decide +kernel
theorem dX5_column_30 : decode cX5_column 30 = .ok (.aload_n 0, 1) := by decide +kernel
theorem dX5_column_31 : decode cX5_column 31 = .ok (.getfield 25, 3) := by decide +kernel
theorem dX5_column_34 : decode cX5_column 34 = .ok (.ifCond .le 7, 3) := by decide +kernel
theorem dX5_column_37 : decode cX5_column 37 = .ok (.iconst 0, 1) := by decide +kernel
theorem dX5_column_38 : decode cX5_column 38 = .ok (.goto 9, 3) := by decide +kernel
theorem dX5_column_41 : decode cX5_column 41 = .ok (.aload_n 0, 1) := by decide +kernel
theorem dX5_column_42 : decode cX5_column 42 = .ok (.iload_n 1, 1) := by decide +kernel
theorem dX5_column_43 : decode cX5_column 43 = .ok (.iload_n 2, 1) := by decide +kernel
theorem dX5_column_44 : decode cX5_column 44 = .ok (.invokevirtual 181, 3) := by decide +kernel
theorem dX5_column_47 : decode cX5_column 47 = .ok (.ireturn, 1) := by decide +kernel
set_option maxRecDepth 20000 in
theorem ggX5_bestAt_X5_layWays : GoodIn wsX5_bestAt wsX5_layWays := goodIn_r _ [6, 1, 7, 8, 9, 10, 5, 11, 12, 13, 14, 15, 16, 17, 18, 19, 20, 21, 22, 23, 24, 25, 26, 27, 28, 29, 30, 31, 32, 33, 34, 35, 36, 37, 38, 39, 40, 41, 42, 43, 44, 45, 46, 47, 48, 49, 50, 59, 60, 61, 62, 63, 64, 65, 66, 67, 68, 69, 70] (by decide +kernel) (by decide +kernel)
set_option maxRecDepth 20000 in
theorem gX5_bestAt_X5_layWays : GoodIn wsX5_bestAt (wsV RX5 169 RX5 yX5_layWays wsX5_layWays) := goodIn_app (goodIn_of _ (by decide +kernel)) ggX5_bestAt_X5_layWays
set_option maxRecDepth 20000 in
theorem ggX5_bestAt_X5_of : GoodIn wsX5_bestAt wsX5_of := goodIn_r _ [11, 1, 59, 60, 61, 62, 63, 64, 65, 66, 67, 68, 69, 70] (by decide +kernel) (by decide +kernel)
set_option maxRecDepth 20000 in
theorem gX5_bestAt_X5_of : GoodIn wsX5_bestAt (wsV RX5 40 RX5 yX5_of wsX5_of) := goodIn_app (goodIn_of _ (by decide +kernel)) ggX5_bestAt_X5_of
set_option maxRecDepth 20000 in
theorem ggX5_bestAt_X5_isTaken : GoodIn wsX5_bestAt wsX5_isTaken := goodIn_r _ [23, 8, 9, 10, 5, 11, 1, 59, 60, 61, 62, 63, 64, 65, 66, 67, 68, 69, 70] (by decide +kernel) (by decide +kernel)
set_option maxRecDepth 20000 in
theorem gX5_bestAt_X5_isTaken : GoodIn wsX5_bestAt (wsV RX5 58 RX5 yX5_isTaken wsX5_isTaken) := goodIn_app (goodIn_of _ (by decide +kernel)) ggX5_bestAt_X5_isTaken
set_option maxRecDepth 20000 in
theorem ggX5_bestAt_X5_seatsAhead : GoodIn wsX5_bestAt wsX5_seatsAhead := goodIn_r _ [54, 1, 8, 9, 10, 5, 11, 20, 21, 22, 23, 55, 56, 57, 58, 7, 32, 33, 34, 35, 36, 37, 38, 59, 60, 61, 62, 63, 64, 65, 66, 67, 68, 69, 70] (by decide +kernel) (by decide +kernel)
set_option maxRecDepth 20000 in
theorem gX5_bestAt_X5_seatsAhead : GoodIn wsX5_bestAt (wsV RX5 172 RX5 yX5_seatsAhead wsX5_seatsAhead) := goodIn_app (goodIn_of _ (by decide +kernel)) ggX5_bestAt_X5_seatsAhead
theorem dX5_bestAt_0 : decode cX5_bestAt 0 = .ok (.aload_n 0, 1) := by decide +kernel
theorem dX5_bestAt_1 : decode cX5_bestAt 1 = .ok (.invokevirtual 169, 3) := by decide +kernel
theorem dX5_bestAt_4 : decode cX5_bestAt 4 = .ok (.iconst (-1), 1) := by decide +kernel
theorem dX5_bestAt_5 : decode cX5_bestAt 5 = .ok (.istore_n 2, 1) := by decide +kernel
theorem dX5_bestAt_6 : decode cX5_bestAt 6 = .ok (.iconst 0, 1) := by decide +kernel
theorem dX5_bestAt_7 : decode cX5_bestAt 7 = .ok (.istore_n 3, 1) := by decide +kernel
theorem dX5_bestAt_8 : decode cX5_bestAt 8 = .ok (.iload_n 3, 1) := by decide +kernel
theorem dX5_bestAt_9 : decode cX5_bestAt 9 = .ok (.aload_n 0, 1) := by decide +kernel
theorem dX5_bestAt_10 : decode cX5_bestAt 10 = .ok (.getfield 7, 3) := by decide +kernel
theorem dX5_bestAt_13 : decode cX5_bestAt 13 = .ok (.iconst 3, 1) := by decide +kernel
theorem dX5_bestAt_14 : decode cX5_bestAt 14 = .ok (.iaload, 1) := by decide +kernel
theorem dX5_bestAt_15 : decode cX5_bestAt 15 = .ok (.if_icmp .ge 75, 3) := by decide +kernel
theorem dX5_bestAt_18 : decode cX5_bestAt 18 = .ok (.iconst 0, 1) := by decide +kernel
theorem dX5_bestAt_19 : decode cX5_bestAt 19 = .ok (.istore 4, 2) := by decide +kernel
theorem dX5_bestAt_21 : decode cX5_bestAt 21 = .ok (.iload 4, 2) := by decide +kernel
theorem dX5_bestAt_23 : decode cX5_bestAt 23 = .ok (.aload_n 0, 1) := by decide +kernel
theorem dX5_bestAt_24 : decode cX5_bestAt 24 = .ok (.iload_n 3, 1) := by decide +kernel
theorem dX5_bestAt_25 : decode cX5_bestAt 25 = .ok (.iconst 2, 1) := by decide +kernel
theorem dX5_bestAt_26 : decode cX5_bestAt 26 = .ok (.invokevirtual 40, 3) := by decide +kernel
theorem dX5_bestAt_29 : decode cX5_bestAt 29 = .ok (.if_icmp .ge 55, 3) := by decide +kernel
theorem dX5_bestAt_32 : decode cX5_bestAt 32 = .ok (.aload_n 0, 1) := by decide +kernel
theorem dX5_bestAt_33 : decode cX5_bestAt 33 = .ok (.iload_n 3, 1) := by decide +kernel
theorem dX5_bestAt_34 : decode cX5_bestAt 34 = .ok (.iload 4, 2) := by decide +kernel
theorem dX5_bestAt_36 : decode cX5_bestAt 36 = .ok (.invokevirtual 58, 3) := by decide +kernel
theorem dX5_bestAt_39 : decode cX5_bestAt 39 = .ok (.ifCond .ne 19, 3) := by decide +kernel
theorem dX5_bestAt_42 : decode cX5_bestAt 42 = .ok (.aload_n 0, 1) := by decide +kernel
theorem dX5_bestAt_43 : decode cX5_bestAt 43 = .ok (.iload_n 3, 1) := by decide +kernel
theorem dX5_bestAt_44 : decode cX5_bestAt 44 = .ok (.iload 4, 2) := by decide +kernel
theorem dX5_bestAt_46 : decode cX5_bestAt 46 = .ok (.iconst 1, 1) := by decide +kernel
theorem dX5_bestAt_47 : decode cX5_bestAt 47 = .ok (.invokevirtual 172, 3) := by decide +kernel
theorem dX5_bestAt_50 : decode cX5_bestAt 50 = .ok (.iload_n 1, 1) := by decide +kernel
theorem dX5_bestAt_51 : decode cX5_bestAt 51 = .ok (.if_icmp .ne 7, 3) := by decide +kernel
theorem dX5_bestAt_54 : decode cX5_bestAt 54 = .ok (.iconst 1, 1) := by decide +kernel
theorem dX5_bestAt_55 : decode cX5_bestAt 55 = .ok (.goto 4, 3) := by decide +kernel
theorem dX5_bestAt_58 : decode cX5_bestAt 58 = .ok (.iconst 0, 1) := by decide +kernel
theorem dX5_bestAt_59 : decode cX5_bestAt 59 = .ok (.istore 5, 2) := by decide +kernel
theorem dX5_bestAt_61 : decode cX5_bestAt 61 = .ok (.iload 5, 2) := by decide +kernel
theorem dX5_bestAt_63 : decode cX5_bestAt 63 = .ok (.ifCond .eq 13, 3) := by decide +kernel
theorem dX5_bestAt_66 : decode cX5_bestAt 66 = .ok (.bipush 100, 2) := by decide +kernel
theorem dX5_bestAt_68 : decode cX5_bestAt 68 = .ok (.iload_n 3, 1) := by decide +kernel
theorem dX5_bestAt_69 : decode cX5_bestAt 69 = .ok (.imul, 1) := by decide +kernel
theorem dX5_bestAt_70 : decode cX5_bestAt 70 = .ok (.iload 4, 2) := by decide +kernel
theorem dX5_bestAt_72 : decode cX5_bestAt 72 = .ok (.iadd, 1) := by decide +kernel
theorem dX5_bestAt_73 : decode cX5_bestAt 73 = .ok (.goto 4, 3) := by decide +kernel
theorem dX5_bestAt_76 : decode cX5_bestAt 76 = .ok (.iload_n 2, 1) := by decide +kernel
theorem dX5_bestAt_77 : decode cX5_bestAt 77 = .ok (.istore_n 2, 1) := by decide +kernel
theorem dX5_bestAt_78 : decode cX5_bestAt 78 = .ok (.iinc 4 1, 3) := by decide +kernel
theorem dX5_bestAt_81 : decode cX5_bestAt 81 = .ok (.goto (-60), 3) := by decide +kernel
theorem dX5_bestAt_84 : decode cX5_bestAt 84 = .ok (.iinc 3 1, 3) := by decide +kernel
theorem dX5_bestAt_87 : decode cX5_bestAt 87 = .ok (.goto (-79), 3) := by decide +kernel
theorem dX5_bestAt_90 : decode cX5_bestAt 90 = .ok (.iload_n 2, 1) := by decide +kernel
theorem dX5_bestAt_91 : decode cX5_bestAt 91 = .ok (.ireturn, 1) := by decide +kernel
set_option maxRecDepth 20000 in
theorem ggX5_best_X5_bestAt : GoodIn wsX5_best wsX5_bestAt := goodIn_r _ [6, 7, 8, 9, 10, 5, 11, 12, 13, 14, 15, 16, 17, 18, 19, 20, 21, 22, 23, 24, 25, 26, 27, 28, 29, 30, 31, 32, 33, 34, 35, 36, 37, 38, 39, 40, 41, 42, 43, 44, 45, 46, 47, 48, 49, 50, 51, 52, 53, 54, 55, 56, 57, 58, 59, 60, 61, 62, 63, 64, 65, 66, 67, 68, 69, 70, 71, 72, 73, 74, 75] (by decide +kernel) (by decide +kernel)
set_option maxRecDepth 20000 in
theorem gX5_best_X5_bestAt : GoodIn wsX5_best (wsV RX5 184 RX5 yX5_bestAt wsX5_bestAt) := goodIn_app (goodIn_of _ (by decide +kernel)) ggX5_best_X5_bestAt
theorem dX5_best_0 : decode cX5_best 0 = .ok (.aload_n 0, 1) := by decide +kernel
theorem dX5_best_1 : decode cX5_best 1 = .ok (.iload_n 1, 1) := by decide +kernel
theorem dX5_best_2 : decode cX5_best 2 = .ok (.ifCond .ge 7, 3) := by decide +kernel
theorem dX5_best_5 : decode cX5_best 5 = .ok (.iconst 1, 1) := by decide +kernel
theorem dX5_best_6 : decode cX5_best 6 = .ok (.goto 4, 3) := by decide +kernel
theorem dX5_best_9 : decode cX5_best 9 = .ok (.iconst 0, 1) := by decide +kernel
theorem dX5_best_10 : decode cX5_best 10 = .ok (.putfield 25, 3) := by decide +kernel
theorem dX5_best_13 : decode cX5_best 13 = .ok (.aload_n 0, 1) := by decide +kernel
theorem dX5_best_14 : decode cX5_best 14 = .ok (.getfield 25, 3) := by decide +kernel
theorem dX5_best_17 : decode cX5_best 17 = .ok (.ifCond .le 7, 3) := by decide +kernel
theorem dX5_best_20 : decode cX5_best 20 = .ok (.iconst 0, 1) := by decide +kernel
theorem dX5_best_21 : decode cX5_best 21 = .ok (.goto 8, 3) := by decide +kernel
theorem dX5_best_24 : decode cX5_best 24 = .ok (.aload_n 0, 1) := by decide +kernel
theorem dX5_best_25 : decode cX5_best 25 = .ok (.iload_n 1, 1) := by decide +kernel
theorem dX5_best_26 : decode cX5_best 26 = .ok (.invokevirtual 184, 3) := by decide +kernel
theorem dX5_best_29 : decode cX5_best 29 = .ok (.ireturn, 1) := by decide +kernel
set_option maxRecDepth 20000 in
theorem ggX5_blockerOf_X5_of : GoodIn wsX5_blockerOf wsX5_of := goodIn_r _ [5, 6, 26, 27, 28, 29, 30, 31, 32, 33, 34, 35, 36, 37] (by decide +kernel) (by decide +kernel)
set_option maxRecDepth 20000 in
theorem gX5_blockerOf_X5_of : GoodIn wsX5_blockerOf (wsV RX5 40 RX5 yX5_of wsX5_of) := goodIn_app (goodIn_of _ (by decide +kernel)) ggX5_blockerOf_X5_of
set_option maxRecDepth 20000 in
theorem ggX5_blockerOf_X5_isTaken : GoodIn wsX5_blockerOf wsX5_isTaken := goodIn_r _ [10, 1, 2, 3, 4, 5, 6, 26, 27, 28, 29, 30, 31, 32, 33, 34, 35, 36, 37] (by decide +kernel) (by decide +kernel)
set_option maxRecDepth 20000 in
theorem gX5_blockerOf_X5_isTaken : GoodIn wsX5_blockerOf (wsV RX5 58 RX5 yX5_isTaken wsX5_isTaken) := goodIn_app (goodIn_of _ (by decide +kernel)) ggX5_blockerOf_X5_isTaken
set_option maxRecDepth 20000 in
theorem ggX5_blockerOf_X5_blocks : GoodIn wsX5_blockerOf wsX5_blocks := goodIn_r _ [14, 15, 16, 17, 4, 18, 6, 1, 2, 3, 5, 19, 20, 21, 22, 23, 24, 25, 26, 27, 28, 29, 30, 31, 32, 33, 34, 35, 36, 37] (by decide +kernel) (by decide +kernel)
set_option maxRecDepth 20000 in
theorem gX5_blockerOf_X5_blocks : GoodIn wsX5_blockerOf (wsV RX5 61 RX5 yX5_blocks wsX5_blocks) := goodIn_app (goodIn_of _ (by decide +kernel)) ggX5_blockerOf_X5_blocks
theorem dX5_blockerOf_0 : decode cX5_blockerOf 0 = .ok (.iconst (-1), 1) := by decide +kernel
theorem dX5_blockerOf_1 : decode cX5_blockerOf 1 = .ok (.istore_n 3, 1) := by decide +kernel
theorem dX5_blockerOf_2 : decode cX5_blockerOf 2 = .ok (.iconst 0, 1) := by decide +kernel
theorem dX5_blockerOf_3 : decode cX5_blockerOf 3 = .ok (.istore 4, 2) := by decide +kernel
theorem dX5_blockerOf_5 : decode cX5_blockerOf 5 = .ok (.iload 4, 2) := by decide +kernel
theorem dX5_blockerOf_7 : decode cX5_blockerOf 7 = .ok (.iload_n 1, 1) := by decide +kernel
theorem dX5_blockerOf_8 : decode cX5_blockerOf 8 = .ok (.if_icmp .ge 68, 3) := by decide +kernel
theorem dX5_blockerOf_11 : decode cX5_blockerOf 11 = .ok (.aload_n 0, 1) := by decide +kernel
theorem dX5_blockerOf_12 : decode cX5_blockerOf 12 = .ok (.iload 4, 2) := by decide +kernel
theorem dX5_blockerOf_14 : decode cX5_blockerOf 14 = .ok (.iconst 2, 1) := by decide +kernel
theorem dX5_blockerOf_15 : decode cX5_blockerOf 15 = .ok (.invokevirtual 40, 3) := by decide +kernel
theorem dX5_blockerOf_18 : decode cX5_blockerOf 18 = .ok (.iconst 1, 1) := by decide +kernel
theorem dX5_blockerOf_19 : decode cX5_blockerOf 19 = .ok (.isub, 1) := by decide +kernel
theorem dX5_blockerOf_20 : decode cX5_blockerOf 20 = .ok (.istore 5, 2) := by decide +kernel
theorem dX5_blockerOf_22 : decode cX5_blockerOf 22 = .ok (.iload 5, 2) := by decide +kernel
theorem dX5_blockerOf_24 : decode cX5_blockerOf 24 = .ok (.ifCond .lt 46, 3) := by decide +kernel
theorem dX5_blockerOf_27 : decode cX5_blockerOf 27 = .ok (.aload_n 0, 1) := by decide +kernel
theorem dX5_blockerOf_28 : decode cX5_blockerOf 28 = .ok (.iload 4, 2) := by decide +kernel
theorem dX5_blockerOf_30 : decode cX5_blockerOf 30 = .ok (.iload 5, 2) := by decide +kernel
theorem dX5_blockerOf_32 : decode cX5_blockerOf 32 = .ok (.invokevirtual 58, 3) := by decide +kernel
theorem dX5_blockerOf_35 : decode cX5_blockerOf 35 = .ok (.ifCond .eq 27, 3) := by decide +kernel
theorem dX5_blockerOf_38 : decode cX5_blockerOf 38 = .ok (.aload_n 0, 1) := by decide +kernel
theorem dX5_blockerOf_39 : decode cX5_blockerOf 39 = .ok (.iload 4, 2) := by decide +kernel
theorem dX5_blockerOf_41 : decode cX5_blockerOf 41 = .ok (.iload 5, 2) := by decide +kernel
theorem dX5_blockerOf_43 : decode cX5_blockerOf 43 = .ok (.iload_n 1, 1) := by decide +kernel
theorem dX5_blockerOf_44 : decode cX5_blockerOf 44 = .ok (.iload_n 2, 1) := by decide +kernel
theorem dX5_blockerOf_45 : decode cX5_blockerOf 45 = .ok (.invokevirtual 61, 3) := by decide +kernel
theorem dX5_blockerOf_48 : decode cX5_blockerOf 48 = .ok (.ifCond .eq 14, 3) := by decide +kernel
theorem dX5_blockerOf_51 : decode cX5_blockerOf 51 = .ok (.bipush 100, 2) := by decide +kernel
theorem dX5_blockerOf_53 : decode cX5_blockerOf 53 = .ok (.iload 4, 2) := by decide +kernel
theorem dX5_blockerOf_55 : decode cX5_blockerOf 55 = .ok (.imul, 1) := by decide +kernel
theorem dX5_blockerOf_56 : decode cX5_blockerOf 56 = .ok (.iload 5, 2) := by decide +kernel
theorem dX5_blockerOf_58 : decode cX5_blockerOf 58 = .ok (.iadd, 1) := by decide +kernel
theorem dX5_blockerOf_59 : decode cX5_blockerOf 59 = .ok (.goto 4, 3) := by decide +kernel
theorem dX5_blockerOf_62 : decode cX5_blockerOf 62 = .ok (.iload_n 3, 1) := by decide +kernel
theorem dX5_blockerOf_63 : decode cX5_blockerOf 63 = .ok (.istore_n 3, 1) := by decide +kernel
theorem dX5_blockerOf_64 : decode cX5_blockerOf 64 = .ok (.iinc 5 (-1), 3) := by decide +kernel
theorem dX5_blockerOf_67 : decode cX5_blockerOf 67 = .ok (.goto (-45), 3) := by decide +kernel
theorem dX5_blockerOf_70 : decode cX5_blockerOf 70 = .ok (.iinc 4 1, 3) := by decide +kernel
theorem dX5_blockerOf_73 : decode cX5_blockerOf 73 = .ok (.goto (-68), 3) := by decide +kernel
theorem dX5_blockerOf_76 : decode cX5_blockerOf 76 = .ok (.iload_n 3, 1) := by decide +kernel
theorem dX5_blockerOf_77 : decode cX5_blockerOf 77 = .ok (.ireturn, 1) := by decide +kernel
set_option maxRecDepth 20000 in
theorem ggX5_whoBlocks_X5_isSeat : GoodIn wsX5_whoBlocks wsX5_isSeat := goodIn_r _ [6, 7, 8, 9, 5, 10, 11, 12, 13, 14, 15, 16, 17, 18, 42, 43, 44, 45, 46, 47, 48, 49, 50, 51, 52, 53] (by decide +kernel) (by decide +kernel)
set_option maxRecDepth 20000 in
theorem gX5_whoBlocks_X5_isSeat : GoodIn wsX5_whoBlocks (wsV RX5 113 RX5 yX5_isSeat wsX5_isSeat) := goodIn_app (goodIn_of _ (by decide +kernel)) ggX5_whoBlocks_X5_isSeat
set_option maxRecDepth 20000 in
theorem ggX5_whoBlocks_X5_blockerOf : GoodIn wsX5_whoBlocks wsX5_blockerOf := goodIn_r _ [22, 15, 16, 17, 5, 18, 11, 23, 24, 25, 26, 27, 28, 29, 30, 31, 32, 33, 34, 35, 36, 37, 38, 39, 40, 41, 42, 43, 44, 45, 46, 47, 48, 49, 50, 51, 52, 53] (by decide +kernel) (by decide +kernel)
set_option maxRecDepth 20000 in
theorem gX5_whoBlocks_X5_blockerOf : GoodIn wsX5_whoBlocks (wsV RX5 187 RX5 yX5_blockerOf wsX5_blockerOf) := goodIn_app (goodIn_of _ (by decide +kernel)) ggX5_whoBlocks_X5_blockerOf
theorem dX5_whoBlocks_0 : decode cX5_whoBlocks 0 = .ok (.aload_n 0, 1) := by decide +kernel
theorem dX5_whoBlocks_1 : decode cX5_whoBlocks 1 = .ok (.aload_n 0, 1) := by decide +kernel
theorem dX5_whoBlocks_2 : decode cX5_whoBlocks 2 = .ok (.iload_n 1, 1) := by decide +kernel
theorem dX5_whoBlocks_3 : decode cX5_whoBlocks 3 = .ok (.iload_n 2, 1) := by decide +kernel
theorem dX5_whoBlocks_4 : decode cX5_whoBlocks 4 = .ok (.invokevirtual 113, 3) := by decide +kernel
theorem dX5_whoBlocks_7 : decode cX5_whoBlocks 7 = .ok (.ifCond .eq 7, 3) := by decide +kernel
theorem dX5_whoBlocks_10 : decode cX5_whoBlocks 10 = .ok (.iconst 0, 1) := by decide +kernel
theorem dX5_whoBlocks_11 : decode cX5_whoBlocks 11 = .ok (.goto 4, 3) := by decide +kernel
theorem dX5_whoBlocks_14 : decode cX5_whoBlocks 14 = .ok (.iconst 1, 1) := by decide +kernel
theorem dX5_whoBlocks_15 : decode cX5_whoBlocks 15 = .ok (.putfield 25, 3) := by decide +kernel
theorem dX5_whoBlocks_18 : decode cX5_whoBlocks 18 = .ok (.aload_n 0, 1) := by decide +kernel
theorem dX5_whoBlocks_19 : decode cX5_whoBlocks 19 = .ok (.getfield 25, 3) := by decide +kernel
theorem dX5_whoBlocks_22 : decode cX5_whoBlocks 22 = .ok (.ifCond .le 7, 3) := by decide +kernel
theorem dX5_whoBlocks_25 : decode cX5_whoBlocks 25 = .ok (.iconst 0, 1) := by decide +kernel
theorem dX5_whoBlocks_26 : decode cX5_whoBlocks 26 = .ok (.goto 9, 3) := by decide +kernel
theorem dX5_whoBlocks_29 : decode cX5_whoBlocks 29 = .ok (.aload_n 0, 1) := by decide +kernel
theorem dX5_whoBlocks_30 : decode cX5_whoBlocks 30 = .ok (.iload_n 1, 1) := by decide +kernel
theorem dX5_whoBlocks_31 : decode cX5_whoBlocks 31 = .ok (.iload_n 2, 1) := by decide +kernel
theorem dX5_whoBlocks_32 : decode cX5_whoBlocks 32 = .ok (.invokevirtual 187, 3) := by decide +kernel
theorem dX5_whoBlocks_35 : decode cX5_whoBlocks 35 = .ok (.ireturn, 1) := by decide +kernel
set_option maxRecDepth 20000 in
theorem ggX5_pairs_X5_of : GoodIn wsX5_pairs wsX5_of := goodIn_r _ [6, 1, 30, 31, 32, 33, 34, 35, 36, 37, 38, 39, 40, 41] (by decide +kernel) (by decide +kernel)
set_option maxRecDepth 20000 in
theorem gX5_pairs_X5_of : GoodIn wsX5_pairs (wsV RX5 40 RX5 yX5_of wsX5_of) := goodIn_app (goodIn_of _ (by decide +kernel)) ggX5_pairs_X5_of
set_option maxRecDepth 20000 in
theorem ggX5_pairs_X5_isTaken : GoodIn wsX5_pairs wsX5_isTaken := goodIn_r _ [10, 2, 3, 4, 5, 6, 1, 30, 31, 32, 33, 34, 35, 36, 37, 38, 39, 40, 41] (by decide +kernel) (by decide +kernel)
set_option maxRecDepth 20000 in
theorem gX5_pairs_X5_isTaken : GoodIn wsX5_pairs (wsV RX5 58 RX5 yX5_isTaken wsX5_isTaken) := goodIn_app (goodIn_of _ (by decide +kernel)) ggX5_pairs_X5_isTaken
set_option maxRecDepth 20000 in
theorem ggX5_pairs_X5_peopleInWay : GoodIn wsX5_pairs wsX5_peopleInWay := goodIn_r _ [14, 2, 3, 4, 5, 6, 1, 7, 8, 9, 10, 15, 16, 17, 18, 19, 20, 21, 22, 23, 24, 25, 26, 27, 28, 29, 30, 31, 32, 33, 34, 35, 36, 37, 38, 39, 40, 41] (by decide +kernel) (by decide +kernel)
set_option maxRecDepth 20000 in
theorem gX5_pairs_X5_peopleInWay : GoodIn wsX5_pairs (wsV RX5 68 RX5 yX5_peopleInWay wsX5_peopleInWay) := goodIn_app (goodIn_of _ (by decide +kernel)) ggX5_pairs_X5_peopleInWay
theorem dX5_pairs_0 : decode cX5_pairs 0 = .ok (.iconst 0, 1) := by decide +kernel
theorem dX5_pairs_1 : decode cX5_pairs 1 = .ok (.istore_n 1, 1) := by decide +kernel
theorem dX5_pairs_2 : decode cX5_pairs 2 = .ok (.iconst 0, 1) := by decide +kernel
theorem dX5_pairs_3 : decode cX5_pairs 3 = .ok (.istore_n 2, 1) := by decide +kernel
theorem dX5_pairs_4 : decode cX5_pairs 4 = .ok (.iload_n 2, 1) := by decide +kernel
theorem dX5_pairs_5 : decode cX5_pairs 5 = .ok (.aload_n 0, 1) := by decide +kernel
theorem dX5_pairs_6 : decode cX5_pairs 6 = .ok (.getfield 7, 3) := by decide +kernel
theorem dX5_pairs_9 : decode cX5_pairs 9 = .ok (.iconst 3, 1) := by decide +kernel
theorem dX5_pairs_10 : decode cX5_pairs 10 = .ok (.iaload, 1) := by decide +kernel
theorem dX5_pairs_11 : decode cX5_pairs 11 = .ok (.if_icmp .ge 49, 3) := by decide +kernel
theorem dX5_pairs_14 : decode cX5_pairs 14 = .ok (.iconst 0, 1) := by decide +kernel
theorem dX5_pairs_15 : decode cX5_pairs 15 = .ok (.istore_n 3, 1) := by decide +kernel
theorem dX5_pairs_16 : decode cX5_pairs 16 = .ok (.iload_n 3, 1) := by decide +kernel
theorem dX5_pairs_17 : decode cX5_pairs 17 = .ok (.aload_n 0, 1) := by decide +kernel
theorem dX5_pairs_18 : decode cX5_pairs 18 = .ok (.iload_n 2, 1) := by decide +kernel
theorem dX5_pairs_19 : decode cX5_pairs 19 = .ok (.iconst 2, 1) := by decide +kernel
theorem dX5_pairs_20 : decode cX5_pairs 20 = .ok (.invokevirtual 40, 3) := by decide +kernel
theorem dX5_pairs_23 : decode cX5_pairs 23 = .ok (.if_icmp .ge 31, 3) := by decide +kernel
theorem dX5_pairs_26 : decode cX5_pairs 26 = .ok (.iload_n 1, 1) := by decide +kernel
theorem dX5_pairs_27 : decode cX5_pairs 27 = .ok (.aload_n 0, 1) := by decide +kernel
theorem dX5_pairs_28 : decode cX5_pairs 28 = .ok (.iload_n 2, 1) := by decide +kernel
theorem dX5_pairs_29 : decode cX5_pairs 29 = .ok (.iload_n 3, 1) := by decide +kernel
theorem dX5_pairs_30 : decode cX5_pairs 30 = .ok (.invokevirtual 58, 3) := by decide +kernel
theorem dX5_pairs_33 : decode cX5_pairs 33 = .ok (.ifCond .eq 12, 3) := by decide +kernel
theorem dX5_pairs_36 : decode cX5_pairs 36 = .ok (.aload_n 0, 1) := by decide +kernel
theorem dX5_pairs_37 : decode cX5_pairs 37 = .ok (.iload_n 2, 1) := by decide +kernel
theorem dX5_pairs_38 : decode cX5_pairs 38 = .ok (.iload_n 3, 1) := by decide +kernel
theorem dX5_pairs_39 : decode cX5_pairs 39 = .ok (.invokevirtual 68, 3) := by decide +kernel
theorem dX5_pairs_42 : decode cX5_pairs 42 = .ok (.goto 4, 3) := by decide +kernel
theorem dX5_pairs_45 : decode cX5_pairs 45 = .ok (.iconst 0, 1) := by decide +kernel
theorem dX5_pairs_46 : decode cX5_pairs 46 = .ok (.iadd, 1) := by decide +kernel
theorem dX5_pairs_47 : decode cX5_pairs 47 = .ok (.istore_n 1, 1) := by decide +kernel
theorem dX5_pairs_48 : decode cX5_pairs 48 = .ok (.iinc 3 1, 3) := by decide +kernel
theorem dX5_pairs_51 : decode cX5_pairs 51 = .ok (.goto (-35), 3) := by decide +kernel
theorem dX5_pairs_54 : decode cX5_pairs 54 = .ok (.iinc 2 1, 3) := by decide +kernel
theorem dX5_pairs_57 : decode cX5_pairs 57 = .ok (.goto (-53), 3) := by decide +kernel
theorem dX5_pairs_60 : decode cX5_pairs 60 = .ok (.iload_n 1, 1) := by decide +kernel
theorem dX5_pairs_61 : decode cX5_pairs 61 = .ok (.ireturn, 1) := by decide +kernel
set_option maxRecDepth 20000 in
theorem ggX5_longestFree_X5_of : GoodIn wsX5_longestFree wsX5_of := goodIn_r _ [6, 1, 11, 12, 13, 14, 15, 16, 17, 18, 19, 20, 21, 22] (by decide +kernel) (by decide +kernel)
set_option maxRecDepth 20000 in
theorem gX5_longestFree_X5_of : GoodIn wsX5_longestFree (wsV RX5 40 RX5 yX5_of wsX5_of) := goodIn_app (goodIn_of _ (by decide +kernel)) ggX5_longestFree_X5_of
set_option maxRecDepth 20000 in
theorem ggX5_longestFree_X5_isTaken : GoodIn wsX5_longestFree wsX5_isTaken := goodIn_r _ [10, 2, 3, 4, 5, 6, 1, 11, 12, 13, 14, 15, 16, 17, 18, 19, 20, 21, 22] (by decide +kernel) (by decide +kernel)
set_option maxRecDepth 20000 in
theorem gX5_longestFree_X5_isTaken : GoodIn wsX5_longestFree (wsV RX5 58 RX5 yX5_isTaken wsX5_isTaken) := goodIn_app (goodIn_of _ (by decide +kernel)) ggX5_longestFree_X5_isTaken
theorem dX5_longestFree_0 : decode cX5_longestFree 0 = .ok (.iconst 0, 1) := by decide +kernel
theorem dX5_longestFree_1 : decode cX5_longestFree 1 = .ok (.istore_n 1, 1) := by decide +kernel
theorem dX5_longestFree_2 : decode cX5_longestFree 2 = .ok (.iconst 0, 1) := by decide +kernel
theorem dX5_longestFree_3 : decode cX5_longestFree 3 = .ok (.istore_n 2, 1) := by decide +kernel
theorem dX5_longestFree_4 : decode cX5_longestFree 4 = .ok (.iload_n 2, 1) := by decide +kernel
theorem dX5_longestFree_5 : decode cX5_longestFree 5 = .ok (.aload_n 0, 1) := by decide +kernel
theorem dX5_longestFree_6 : decode cX5_longestFree 6 = .ok (.getfield 7, 3) := by decide +kernel
theorem dX5_longestFree_9 : decode cX5_longestFree 9 = .ok (.iconst 3, 1) := by decide +kernel
theorem dX5_longestFree_10 : decode cX5_longestFree 10 = .ok (.iaload, 1) := by decide +kernel
theorem dX5_longestFree_11 : decode cX5_longestFree 11 = .ok (.if_icmp .ge 60, 3) := by decide +kernel
theorem dX5_longestFree_14 : decode cX5_longestFree 14 = .ok (.iconst 0, 1) := by decide +kernel
theorem dX5_longestFree_15 : decode cX5_longestFree 15 = .ok (.istore_n 3, 1) := by decide +kernel
theorem dX5_longestFree_16 : decode cX5_longestFree 16 = .ok (.iconst 0, 1) := by decide +kernel
theorem dX5_longestFree_17 : decode cX5_longestFree 17 = .ok (.istore 4, 2) := by decide +kernel
theorem dX5_longestFree_19 : decode cX5_longestFree 19 = .ok (.iload 4, 2) := by decide +kernel
theorem dX5_longestFree_21 : decode cX5_longestFree 21 = .ok (.aload_n 0, 1) := by decide +kernel
theorem dX5_longestFree_22 : decode cX5_longestFree 22 = .ok (.iload_n 2, 1) := by decide +kernel
theorem dX5_longestFree_23 : decode cX5_longestFree 23 = .ok (.iconst 2, 1) := by decide +kernel
theorem dX5_longestFree_24 : decode cX5_longestFree 24 = .ok (.invokevirtual 40, 3) := by decide +kernel
theorem dX5_longestFree_27 : decode cX5_longestFree 27 = .ok (.if_icmp .ge 38, 3) := by decide +kernel
theorem dX5_longestFree_30 : decode cX5_longestFree 30 = .ok (.aload_n 0, 1) := by decide +kernel
theorem dX5_longestFree_31 : decode cX5_longestFree 31 = .ok (.iload_n 2, 1) := by decide +kernel
theorem dX5_longestFree_32 : decode cX5_longestFree 32 = .ok (.iload 4, 2) := by decide +kernel
theorem dX5_longestFree_34 : decode cX5_longestFree 34 = .ok (.invokevirtual 58, 3) := by decide +kernel
theorem dX5_longestFree_37 : decode cX5_longestFree 37 = .ok (.ifCond .eq 7, 3) := by decide +kernel
theorem dX5_longestFree_40 : decode cX5_longestFree 40 = .ok (.iconst 0, 1) := by decide +kernel
theorem dX5_longestFree_41 : decode cX5_longestFree 41 = .ok (.goto 6, 3) := by decide +kernel
theorem dX5_longestFree_44 : decode cX5_longestFree 44 = .ok (.iload_n 3, 1) := by decide +kernel
theorem dX5_longestFree_45 : decode cX5_longestFree 45 = .ok (.iconst 1, 1) := by decide +kernel
theorem dX5_longestFree_46 : decode cX5_longestFree 46 = .ok (.iadd, 1) := by decide +kernel
theorem dX5_longestFree_47 : decode cX5_longestFree 47 = .ok (.istore_n 3, 1) := by decide +kernel
theorem dX5_longestFree_48 : decode cX5_longestFree 48 = .ok (.iload_n 3, 1) := by decide +kernel
theorem dX5_longestFree_49 : decode cX5_longestFree 49 = .ok (.iload_n 1, 1) := by decide +kernel
theorem dX5_longestFree_50 : decode cX5_longestFree 50 = .ok (.if_icmp .le 7, 3) := by decide +kernel
theorem dX5_longestFree_53 : decode cX5_longestFree 53 = .ok (.iload_n 3, 1) := by decide +kernel
theorem dX5_longestFree_54 : decode cX5_longestFree 54 = .ok (.goto 4, 3) := by decide +kernel
theorem dX5_longestFree_57 : decode cX5_longestFree 57 = .ok (.iload_n 1, 1) := by decide +kernel
theorem dX5_longestFree_58 : decode cX5_longestFree 58 = .ok (.istore_n 1, 1) := by decide +kernel
theorem dX5_longestFree_59 : decode cX5_longestFree 59 = .ok (.iinc 4 1, 3) := by decide +kernel
theorem dX5_longestFree_62 : decode cX5_longestFree 62 = .ok (.goto (-43), 3) := by decide +kernel
theorem dX5_longestFree_65 : decode cX5_longestFree 65 = .ok (.iinc 2 1, 3) := by decide +kernel
theorem dX5_longestFree_68 : decode cX5_longestFree 68 = .ok (.goto (-64), 3) := by decide +kernel
theorem dX5_longestFree_71 : decode cX5_longestFree 71 = .ok (.iload_n 1, 1) := by decide +kernel
theorem dX5_longestFree_72 : decode cX5_longestFree 72 = .ok (.ireturn, 1) := by decide +kernel
set_option maxRecDepth 20000 in
theorem ggX5_counted_X5_allSeats : GoodIn wsX5_counted wsX5_allSeats := goodIn_r _ [7, 1, 8, 9, 10, 6, 11, 79, 80, 81, 82, 83, 84, 85, 86, 87, 88, 89, 90] (by decide +kernel) (by decide +kernel)
set_option maxRecDepth 20000 in
theorem gX5_counted_X5_allSeats : GoodIn wsX5_counted (wsV RX5 97 RX5 yX5_allSeats wsX5_allSeats) := goodIn_app (goodIn_of _ (by decide +kernel)) ggX5_counted_X5_allSeats
set_option maxRecDepth 20000 in
theorem ggX5_counted_X5_allTaken : GoodIn wsX5_counted wsX5_allTaken := goodIn_r _ [15, 1, 16, 17, 18, 6, 19, 8, 9, 10, 11, 20, 21, 22, 23, 79, 80, 81, 82, 83, 84, 85, 86, 87, 88, 89, 90] (by decide +kernel) (by decide +kernel)
set_option maxRecDepth 20000 in
theorem gX5_counted_X5_allTaken : GoodIn wsX5_counted (wsV RX5 116 RX5 yX5_allTaken wsX5_allTaken) := goodIn_app (goodIn_of _ (by decide +kernel)) ggX5_counted_X5_allTaken
set_option maxRecDepth 20000 in
theorem ggX5_counted_X5_seeing : GoodIn wsX5_counted wsX5_seeing := goodIn_r _ [27, 1, 28, 29, 30, 6, 31, 8, 9, 10, 11, 20, 21, 22, 23, 32, 33, 34, 35, 36, 37, 38, 39, 40, 41, 42, 43, 44, 45, 46, 47, 48, 49, 50, 51, 52, 53, 54, 55, 56, 57, 58, 59, 60, 61, 62, 63, 64, 65, 66, 67, 68, 69, 70, 79, 80, 81, 82, 83, 84, 85, 86, 87, 88, 89, 90] (by decide +kernel) (by decide +kernel)
set_option maxRecDepth 20000 in
theorem gX5_counted_X5_seeing : GoodIn wsX5_counted (wsV RX5 190 RX5 yX5_seeing wsX5_seeing) := goodIn_app (goodIn_of _ (by decide +kernel)) ggX5_counted_X5_seeing
set_option maxRecDepth 20000 in
theorem ggX5_counted_X5_pairs : GoodIn wsX5_counted wsX5_pairs := goodIn_r _ [74, 1, 8, 9, 10, 6, 11, 20, 21, 22, 23, 40, 41, 42, 43, 44, 45, 46, 47, 48, 49, 50, 51, 52, 53, 54, 55, 56, 57, 58, 79, 80, 81, 82, 83, 84, 85, 86, 87, 88, 89, 90] (by decide +kernel) (by decide +kernel)
set_option maxRecDepth 20000 in
theorem gX5_counted_X5_pairs : GoodIn wsX5_counted (wsV RX5 194 RX5 yX5_pairs wsX5_pairs) := goodIn_app (goodIn_of _ (by decide +kernel)) ggX5_counted_X5_pairs
set_option maxRecDepth 20000 in
theorem ggX5_counted_X5_longestFree : GoodIn wsX5_counted wsX5_longestFree := goodIn_r _ [78, 1, 8, 9, 10, 6, 11, 20, 21, 22, 23, 79, 80, 81, 82, 83, 84, 85, 86, 87, 88, 89, 90] (by decide +kernel) (by decide +kernel)
set_option maxRecDepth 20000 in
theorem gX5_counted_X5_longestFree : GoodIn wsX5_counted (wsV RX5 197 RX5 yX5_longestFree wsX5_longestFree) := goodIn_app (goodIn_of _ (by decide +kernel)) ggX5_counted_X5_longestFree
theorem dX5_counted_0 : decode cX5_counted 0 = .ok (.iload_n 1, 1) := by decide +kernel
theorem dX5_counted_1 : decode cX5_counted 1 = .ok (.tableswitch 91 0 7 #[47, 47, 56, 61, 66, 66, 81, 86], 47) := by decide +kernel
theorem dX5_counted_48 : decode cX5_counted 48 = .ok (.aload_n 0, 1) := by decide +kernel
theorem dX5_counted_49 : decode cX5_counted 49 = .ok (.getfield 7, 3) := by decide +kernel
theorem dX5_counted_52 : decode cX5_counted 52 = .ok (.iconst 3, 1) := by decide +kernel
theorem dX5_counted_53 : decode cX5_counted 53 = .ok (.iload_n 1, 1) := by decide +kernel
theorem dX5_counted_54 : decode cX5_counted 54 = .ok (.iadd, 1) := by decide +kernel
theorem dX5_counted_55 : decode cX5_counted 55 = .ok (.iaload, 1) := by decide +kernel
theorem dX5_counted_56 : decode cX5_counted 56 = .ok (.ireturn, 1) := by decide +kernel
theorem dX5_counted_57 : decode cX5_counted 57 = .ok (.aload_n 0, 1) := by decide +kernel
theorem dX5_counted_58 : decode cX5_counted 58 = .ok (.invokevirtual 97, 3) := by decide +kernel
theorem dX5_counted_61 : decode cX5_counted 61 = .ok (.ireturn, 1) := by decide +kernel
theorem dX5_counted_62 : decode cX5_counted 62 = .ok (.aload_n 0, 1) := by decide +kernel
theorem dX5_counted_63 : decode cX5_counted 63 = .ok (.invokevirtual 116, 3) := by decide +kernel
theorem dX5_counted_66 : decode cX5_counted 66 = .ok (.ireturn, 1) := by decide +kernel
theorem dX5_counted_67 : decode cX5_counted 67 = .ok (.aload_n 0, 1) := by decide +kernel
theorem dX5_counted_68 : decode cX5_counted 68 = .ok (.iload_n 1, 1) := by decide +kernel
theorem dX5_counted_69 : decode cX5_counted 69 = .ok (.iconst 5, 1) := by decide +kernel
theorem dX5_counted_70 : decode cX5_counted 70 = .ok (.if_icmp .ne 7, 3) := by decide +kernel
theorem dX5_counted_73 : decode cX5_counted 73 = .ok (.iconst 1, 1) := by decide +kernel
theorem dX5_counted_74 : decode cX5_counted 74 = .ok (.goto 4, 3) := by decide +kernel
theorem dX5_counted_77 : decode cX5_counted 77 = .ok (.iconst 0, 1) := by decide +kernel
theorem dX5_counted_78 : decode cX5_counted 78 = .ok (.invokevirtual 190, 3) := by decide +kernel
theorem dX5_counted_81 : decode cX5_counted 81 = .ok (.ireturn, 1) := by decide +kernel
theorem dX5_counted_82 : decode cX5_counted 82 = .ok (.aload_n 0, 1) := by decide +kernel
theorem dX5_counted_83 : decode cX5_counted 83 = .ok (.invokevirtual 194, 3) := by decide +kernel
theorem dX5_counted_86 : decode cX5_counted 86 = .ok (.ireturn, 1) := by decide +kernel
theorem dX5_counted_87 : decode cX5_counted 87 = .ok (.aload_n 0, 1) := by decide +kernel
theorem dX5_counted_88 : decode cX5_counted 88 = .ok (.invokevirtual 197, 3) := by decide +kernel
theorem dX5_counted_91 : decode cX5_counted 91 = .ok (.ireturn, 1) := by decide +kernel
theorem dX5_counted_92 : decode cX5_counted 92 = .ok (.aload_n 0, 1) := by decide +kernel
theorem dX5_counted_93 : decode cX5_counted 93 = .ok (.getfield 29, 3) := by decide +kernel
theorem dX5_counted_96 : decode cX5_counted 96 = .ok (.ireturn, 1) := by decide +kernel
set_option maxRecDepth 20000 in
theorem ggX5_count_X5_within : GoodIn wsX5_count wsX5_within := goodIn_r _ [5] (by decide +kernel) (by decide +kernel)
set_option maxRecDepth 20000 in
theorem gX5_count_X5_within : GoodIn wsX5_count (va_wsS RX5 32 yX5_within wsX5_within) := goodIn_app (goodIn_of _ (by decide +kernel)) ggX5_count_X5_within
set_option maxRecDepth 20000 in
theorem ggX5_count_X5_counted : GoodIn wsX5_count wsX5_counted := goodIn_r _ [9, 10, 11, 12, 13, 14, 4, 15, 16, 17, 18, 19, 20, 21, 22, 23, 24, 25, 26, 27, 28, 29, 30, 31, 32, 33, 34, 35, 36, 37, 38, 39, 40, 41, 42, 43, 44, 45, 46, 47, 48, 49, 50, 51, 52, 53, 54, 55, 56, 57, 58, 59, 60, 61, 62, 63, 64, 65, 66, 67, 68, 69, 70, 71, 72, 73, 74, 75, 76, 77, 78, 79, 80, 81, 82, 83, 84, 85, 86, 87, 88, 89, 90, 91, 92, 93, 94, 95, 96, 97, 98] (by decide +kernel) (by decide +kernel)
set_option maxRecDepth 20000 in
theorem gX5_count_X5_counted : GoodIn wsX5_count (wsV RX5 200 RX5 yX5_counted wsX5_counted) := goodIn_app (goodIn_of _ (by decide +kernel)) ggX5_count_X5_counted
theorem dX5_count_0 : decode cX5_count 0 = .ok (.aload_n 0, 1) := by decide +kernel
theorem dX5_count_1 : decode cX5_count 1 = .ok (.iload_n 1, 1) := by decide +kernel
theorem dX5_count_2 : decode cX5_count 2 = .ok (.iconst 0, 1) := by decide +kernel
theorem dX5_count_3 : decode cX5_count 3 = .ok (.bipush 8, 2) := by decide +kernel
theorem dX5_count_5 : decode cX5_count 5 = .ok (.invokestatic 32, 3) := by decide +kernel
theorem dX5_count_8 : decode cX5_count 8 = .ok (.ifCond .eq 7, 3) := by decide +kernel
theorem dX5_count_11 : decode cX5_count 11 = .ok (.iconst 0, 1) := by decide +kernel
theorem dX5_count_12 : decode cX5_count 12 = .ok (.goto 4, 3) := by decide +kernel
theorem dX5_count_15 : decode cX5_count 15 = .ok (.iconst 1, 1) := by decide +kernel
theorem dX5_count_16 : decode cX5_count 16 = .ok (.putfield 25, 3) := by decide +kernel
theorem dX5_count_19 : decode cX5_count 19 = .ok (.aload_n 0, 1) := by decide +kernel
theorem dX5_count_20 : decode cX5_count 20 = .ok (.getfield 25, 3) := by decide +kernel
theorem dX5_count_23 : decode cX5_count 23 = .ok (.ifCond .le 7, 3) := by decide +kernel
theorem dX5_count_26 : decode cX5_count 26 = .ok (.iconst 0, 1) := by decide +kernel
theorem dX5_count_27 : decode cX5_count 27 = .ok (.goto 8, 3) := by decide +kernel
theorem dX5_count_30 : decode cX5_count 30 = .ok (.aload_n 0, 1) := by decide +kernel
theorem dX5_count_31 : decode cX5_count 31 = .ok (.iload_n 1, 1) := by decide +kernel
theorem dX5_count_32 : decode cX5_count 32 = .ok (.invokevirtual 200, 3) := by decide +kernel
theorem dX5_count_35 : decode cX5_count 35 = .ok (.ireturn, 1) := by decide +kernel
set_option maxRecDepth 20000 in
theorem ggX5_setting_X5_isSetting : GoodIn wsX5_setting wsX5_isSetting := goodIn_r _ [6, 7, 8, 5, 9] (by decide +kernel) (by decide +kernel)
set_option maxRecDepth 20000 in
theorem gX5_setting_X5_isSetting : GoodIn wsX5_setting (va_wsS RX5 104 yX5_isSetting wsX5_isSetting) := goodIn_app (goodIn_of _ (by decide +kernel)) ggX5_setting_X5_isSetting
theorem dX5_setting_0 : decode cX5_setting 0 = .ok (.aload_n 0, 1) := by decide +kernel
theorem dX5_setting_1 : decode cX5_setting 1 = .ok (.iload_n 1, 1) := by decide +kernel
theorem dX5_setting_2 : decode cX5_setting 2 = .ok (.invokestatic 104, 3) := by decide +kernel
theorem dX5_setting_5 : decode cX5_setting 5 = .ok (.ifCond .eq 7, 3) := by decide +kernel
theorem dX5_setting_8 : decode cX5_setting 8 = .ok (.iconst 0, 1) := by decide +kernel
theorem dX5_setting_9 : decode cX5_setting 9 = .ok (.goto 4, 3) := by decide +kernel
theorem dX5_setting_12 : decode cX5_setting 12 = .ok (.iconst 1, 1) := by decide +kernel
theorem dX5_setting_13 : decode cX5_setting 13 = .ok (.putfield 25, 3) := by decide +kernel
theorem dX5_setting_16 : decode cX5_setting 16 = .ok (.aload_n 0, 1) := by decide +kernel
theorem dX5_setting_17 : decode cX5_setting 17 = .ok (.getfield 25, 3) := by decide +kernel
theorem dX5_setting_20 : decode cX5_setting 20 = .ok (.ifCond .le 7, 3) := by decide +kernel
theorem dX5_setting_23 : decode cX5_setting 23 = .ok (.iconst 0, 1) := by decide +kernel
theorem dX5_setting_24 : decode cX5_setting 24 = .ok (.goto 9, 3) := by decide +kernel
theorem dX5_setting_27 : decode cX5_setting 27 = .ok (.aload_n 0, 1) := by decide +kernel
theorem dX5_setting_28 : decode cX5_setting 28 = .ok (.getfield 7, 3) := by decide +kernel
theorem dX5_setting_31 : decode cX5_setting 31 = .ok (.iload_n 1, 1) := by decide +kernel
theorem dX5_setting_32 : decode cX5_setting 32 = .ok (.iaload, 1) := by decide +kernel
theorem dX5_setting_33 : decode cX5_setting 33 = .ok (.ireturn, 1) := by decide +kernel
set_option maxRecDepth 20000 in
theorem ggX5_leastHeight_X5_isRow : GoodIn wsX5_leastHeight wsX5_isRow := goodIn_r _ [6, 7, 8, 9, 5, 10, 22, 23, 24, 25, 26, 27, 28, 29, 30, 31, 32, 33] (by decide +kernel) (by decide +kernel)
set_option maxRecDepth 20000 in
theorem gX5_leastHeight_X5_isRow : GoodIn wsX5_leastHeight (wsV RX5 36 RX5 yX5_isRow wsX5_isRow) := goodIn_app (goodIn_of _ (by decide +kernel)) ggX5_leastHeight_X5_isRow
set_option maxRecDepth 20000 in
theorem ggX5_leastHeight_X5_leastFor : GoodIn wsX5_leastHeight wsX5_leastFor := goodIn_r _ [14, 7, 15, 16, 17, 5, 18, 19, 20, 21, 22, 23, 24, 25, 26, 27, 28, 29, 30, 31, 32, 33] (by decide +kernel) (by decide +kernel)
set_option maxRecDepth 20000 in
theorem gX5_leastHeight_X5_leastFor : GoodIn wsX5_leastHeight (wsV RX5 128 RX5 yX5_leastFor wsX5_leastFor) := goodIn_app (goodIn_of _ (by decide +kernel)) ggX5_leastHeight_X5_leastFor
theorem dX5_leastHeight_0 : decode cX5_leastHeight 0 = .ok (.aload_n 0, 1) := by decide +kernel
theorem dX5_leastHeight_1 : decode cX5_leastHeight 1 = .ok (.aload_n 0, 1) := by decide +kernel
theorem dX5_leastHeight_2 : decode cX5_leastHeight 2 = .ok (.iload_n 1, 1) := by decide +kernel
theorem dX5_leastHeight_3 : decode cX5_leastHeight 3 = .ok (.invokevirtual 36, 3) := by decide +kernel
theorem dX5_leastHeight_6 : decode cX5_leastHeight 6 = .ok (.ifCond .eq 7, 3) := by decide +kernel
theorem dX5_leastHeight_9 : decode cX5_leastHeight 9 = .ok (.iconst 0, 1) := by decide +kernel
theorem dX5_leastHeight_10 : decode cX5_leastHeight 10 = .ok (.goto 4, 3) := by decide +kernel
theorem dX5_leastHeight_13 : decode cX5_leastHeight 13 = .ok (.iconst 1, 1) := by decide +kernel
theorem dX5_leastHeight_14 : decode cX5_leastHeight 14 = .ok (.putfield 25, 3) := by decide +kernel
theorem dX5_leastHeight_17 : decode cX5_leastHeight 17 = .ok (.aload_n 0, 1) := by decide +kernel
theorem dX5_leastHeight_18 : decode cX5_leastHeight 18 = .ok (.getfield 25, 3) := by decide +kernel
theorem dX5_leastHeight_21 : decode cX5_leastHeight 21 = .ok (.ifCond .le 7, 3) := by decide +kernel
theorem dX5_leastHeight_24 : decode cX5_leastHeight 24 = .ok (.iconst 0, 1) := by decide +kernel
theorem dX5_leastHeight_25 : decode cX5_leastHeight 25 = .ok (.goto 8, 3) := by decide +kernel
theorem dX5_leastHeight_28 : decode cX5_leastHeight 28 = .ok (.aload_n 0, 1) := by decide +kernel
theorem dX5_leastHeight_29 : decode cX5_leastHeight 29 = .ok (.iload_n 1, 1) := by decide +kernel
theorem dX5_leastHeight_30 : decode cX5_leastHeight 30 = .ok (.invokevirtual 128, 3) := by decide +kernel
theorem dX5_leastHeight_33 : decode cX5_leastHeight 33 = .ok (.ireturn, 1) := by decide +kernel
set_option maxRecDepth 20000 in
theorem ggX5_liftedThen_X5_of : GoodIn wsX5_liftedThen wsX5_of := goodIn_r _ [5, 6, 62, 63, 64, 65, 66, 67, 68, 69, 70, 71, 72, 73] (by decide +kernel) (by decide +kernel)
set_option maxRecDepth 20000 in
theorem gX5_liftedThen_X5_of : GoodIn wsX5_liftedThen (wsV RX5 40 RX5 yX5_of wsX5_of) := goodIn_app (goodIn_of _ (by decide +kernel)) ggX5_liftedThen_X5_of
set_option maxRecDepth 20000 in
theorem ggX5_liftedThen_X5_put : GoodIn wsX5_liftedThen wsX5_put := goodIn_r _ [10, 6, 62, 63, 64, 65, 66, 67, 68, 69, 70, 71, 72, 73] (by decide +kernel) (by decide +kernel)
set_option maxRecDepth 20000 in
theorem gX5_liftedThen_X5_put : GoodIn wsX5_liftedThen (wsV RX5 78 RX5 yX5_put wsX5_put) := goodIn_app (goodIn_of _ (by decide +kernel)) ggX5_liftedThen_X5_put
set_option maxRecDepth 20000 in
theorem ggX5_liftedThen_X5_seeing : GoodIn wsX5_liftedThen wsX5_seeing := goodIn_r _ [14, 6, 15, 16, 17, 4, 18, 1, 2, 3, 5, 19, 20, 21, 22, 23, 24, 25, 26, 27, 28, 29, 30, 31, 32, 33, 34, 35, 36, 37, 38, 39, 40, 41, 42, 43, 44, 45, 46, 47, 48, 49, 50, 51, 52, 53, 54, 55, 56, 57, 58, 59, 60, 61, 62, 63, 64, 65, 66, 67, 68, 69, 70, 71, 72, 73] (by decide +kernel) (by decide +kernel)
set_option maxRecDepth 20000 in
theorem gX5_liftedThen_X5_seeing : GoodIn wsX5_liftedThen (wsV RX5 190 RX5 yX5_seeing wsX5_seeing) := goodIn_app (goodIn_of _ (by decide +kernel)) ggX5_liftedThen_X5_seeing
theorem dX5_liftedThen_0 : decode cX5_liftedThen 0 = .ok (.aload_n 0, 1) := by decide +kernel
theorem dX5_liftedThen_1 : decode cX5_liftedThen 1 = .ok (.iload_n 1, 1) := by decide +kernel
theorem dX5_liftedThen_2 : decode cX5_liftedThen 2 = .ok (.iconst 1, 1) := by decide +kernel
theorem dX5_liftedThen_3 : decode cX5_liftedThen 3 = .ok (.invokevirtual 40, 3) := by decide +kernel
theorem dX5_liftedThen_6 : decode cX5_liftedThen 6 = .ok (.istore_n 3, 1) := by decide +kernel
theorem dX5_liftedThen_7 : decode cX5_liftedThen 7 = .ok (.aload_n 0, 1) := by decide +kernel
theorem dX5_liftedThen_8 : decode cX5_liftedThen 8 = .ok (.iload_n 1, 1) := by decide +kernel
theorem dX5_liftedThen_9 : decode cX5_liftedThen 9 = .ok (.iconst 1, 1) := by decide +kernel
theorem dX5_liftedThen_10 : decode cX5_liftedThen 10 = .ok (.iload_n 2, 1) := by decide +kernel
theorem dX5_liftedThen_11 : decode cX5_liftedThen 11 = .ok (.invokevirtual 78, 3) := by decide +kernel
theorem dX5_liftedThen_14 : decode cX5_liftedThen 14 = .ok (.aload_n 0, 1) := by decide +kernel
theorem dX5_liftedThen_15 : decode cX5_liftedThen 15 = .ok (.iconst 1, 1) := by decide +kernel
theorem dX5_liftedThen_16 : decode cX5_liftedThen 16 = .ok (.invokevirtual 190, 3) := by decide +kernel
theorem dX5_liftedThen_19 : decode cX5_liftedThen 19 = .ok (.istore 4, 2) := by decide +kernel
theorem dX5_liftedThen_21 : decode cX5_liftedThen 21 = .ok (.aload_n 0, 1) := by decide +kernel
theorem dX5_liftedThen_22 : decode cX5_liftedThen 22 = .ok (.iload_n 1, 1) := by decide +kernel
theorem dX5_liftedThen_23 : decode cX5_liftedThen 23 = .ok (.iconst 1, 1) := by decide +kernel
theorem dX5_liftedThen_24 : decode cX5_liftedThen 24 = .ok (.iload_n 3, 1) := by decide +kernel
theorem dX5_liftedThen_25 : decode cX5_liftedThen 25 = .ok (.invokevirtual 78, 3) := by decide +kernel
theorem dX5_liftedThen_28 : decode cX5_liftedThen 28 = .ok (.iload 4, 2) := by decide +kernel
theorem dX5_liftedThen_30 : decode cX5_liftedThen 30 = .ok (.ireturn, 1) := by decide +kernel
set_option maxRecDepth 20000 in
theorem ggX5_ifLifted_X5_isRow : GoodIn wsX5_ifLifted wsX5_isRow := goodIn_r _ [6, 7, 8, 9, 5, 10, 77, 78, 79, 80, 81, 82, 83, 84, 85, 86, 87, 88] (by decide +kernel) (by decide +kernel)
set_option maxRecDepth 20000 in
theorem gX5_ifLifted_X5_isRow : GoodIn wsX5_ifLifted (wsV RX5 36 RX5 yX5_isRow wsX5_isRow) := goodIn_app (goodIn_of _ (by decide +kernel)) ggX5_ifLifted_X5_isRow
set_option maxRecDepth 20000 in
theorem ggX5_ifLifted_X5_isHeight : GoodIn wsX5_ifLifted wsX5_isHeight := goodIn_r _ [13, 8, 9, 5, 10] (by decide +kernel) (by decide +kernel)
set_option maxRecDepth 20000 in
theorem gX5_ifLifted_X5_isHeight : GoodIn wsX5_ifLifted (va_wsS RX5 85 yX5_isHeight wsX5_isHeight) := goodIn_app (goodIn_of _ (by decide +kernel)) ggX5_ifLifted_X5_isHeight
set_option maxRecDepth 20000 in
theorem ggX5_ifLifted_X5_liftedThen : GoodIn wsX5_ifLifted wsX5_liftedThen := goodIn_r _ [17, 18, 19, 20, 5, 21, 7, 22, 23, 24, 25, 26, 27, 28, 29, 30, 31, 32, 33, 34, 35, 36, 37, 38, 39, 40, 41, 42, 43, 44, 45, 46, 47, 48, 49, 50, 51, 52, 53, 54, 55, 56, 57, 58, 59, 60, 61, 62, 63, 64, 65, 66, 67, 68, 69, 70, 71, 72, 73, 74, 75, 76, 77, 78, 79, 80, 81, 82, 83, 84, 85, 86, 87, 88] (by decide +kernel) (by decide +kernel)
set_option maxRecDepth 20000 in
theorem gX5_ifLifted_X5_liftedThen : GoodIn wsX5_ifLifted (wsV RX5 203 RX5 yX5_liftedThen wsX5_liftedThen) := goodIn_app (goodIn_of _ (by decide +kernel)) ggX5_ifLifted_X5_liftedThen
theorem dX5_ifLifted_0 : decode cX5_ifLifted 0 = .ok (.aload_n 0, 1) := by decide +kernel
theorem dX5_ifLifted_1 : decode cX5_ifLifted 1 = .ok (.aload_n 0, 1) := by decide +kernel
theorem dX5_ifLifted_2 : decode cX5_ifLifted 2 = .ok (.iload_n 1, 1) := by decide +kernel
theorem dX5_ifLifted_3 : decode cX5_ifLifted 3 = .ok (.invokevirtual 36, 3) := by decide +kernel
theorem dX5_ifLifted_6 : decode cX5_ifLifted 6 = .ok (.ifCond .ne 7, 3) := by decide +kernel
theorem dX5_ifLifted_9 : decode cX5_ifLifted 9 = .ok (.iconst 1, 1) := by decide +kernel
theorem dX5_ifLifted_10 : decode cX5_ifLifted 10 = .ok (.goto 15, 3) := by decide +kernel
theorem dX5_ifLifted_13 : decode cX5_ifLifted 13 = .ok (.iload_n 2, 1) := by decide +kernel
theorem dX5_ifLifted_14 : decode cX5_ifLifted 14 = .ok (.invokestatic 85, 3) := by decide +kernel
theorem dX5_ifLifted_17 : decode cX5_ifLifted 17 = .ok (.ifCond .eq 7, 3) := by decide +kernel
theorem dX5_ifLifted_20 : decode cX5_ifLifted 20 = .ok (.iconst 0, 1) := by decide +kernel
theorem dX5_ifLifted_21 : decode cX5_ifLifted 21 = .ok (.goto 4, 3) := by decide +kernel
theorem dX5_ifLifted_24 : decode cX5_ifLifted 24 = .ok (.iconst 2, 1) := by decide +kernel
theorem dX5_ifLifted_25 : decode cX5_ifLifted 25 = .ok (.putfield 25, 3) := by decide +kernel
theorem dX5_ifLifted_28 : decode cX5_ifLifted 28 = .ok (.aload_n 0, 1) := by decide +kernel
theorem dX5_ifLifted_29 : decode cX5_ifLifted 29 = .ok (.getfield 25, 3) := by decide +kernel
theorem dX5_ifLifted_32 : decode cX5_ifLifted 32 = .ok (.ifCond .le 7, 3) := by decide +kernel
theorem dX5_ifLifted_35 : decode cX5_ifLifted 35 = .ok (.iconst 0, 1) := by decide +kernel
theorem dX5_ifLifted_36 : decode cX5_ifLifted 36 = .ok (.goto 9, 3) := by decide +kernel
theorem dX5_ifLifted_39 : decode cX5_ifLifted 39 = .ok (.aload_n 0, 1) := by decide +kernel
theorem dX5_ifLifted_40 : decode cX5_ifLifted 40 = .ok (.iload_n 1, 1) := by decide +kernel
theorem dX5_ifLifted_41 : decode cX5_ifLifted 41 = .ok (.iload_n 2, 1) := by decide +kernel
theorem dX5_ifLifted_42 : decode cX5_ifLifted 42 = .ok (.invokevirtual 203, 3) := by decide +kernel
theorem dX5_ifLifted_45 : decode cX5_ifLifted 45 = .ok (.ireturn, 1) := by decide +kernel
set_option maxRecDepth 20000 in
theorem ggX5_takenThen_X5_isTaken : GoodIn wsX5_takenThen wsX5_isTaken := goodIn_r _ [5, 6, 7, 8, 4, 9, 10, 54, 55, 56, 57, 58, 59, 60, 61, 62, 63, 64, 65] (by decide +kernel) (by decide +kernel)
set_option maxRecDepth 20000 in
theorem gX5_takenThen_X5_isTaken : GoodIn wsX5_takenThen (wsV RX5 58 RX5 yX5_isTaken wsX5_isTaken) := goodIn_app (goodIn_of _ (by decide +kernel)) ggX5_takenThen_X5_isTaken
set_option maxRecDepth 20000 in
theorem ggX5_takenThen_X5_blocked : GoodIn wsX5_takenThen wsX5_blocked := goodIn_r _ [14, 10, 6, 7, 8, 4, 9, 1, 2, 3, 5, 15, 16, 17, 18, 19, 20, 21, 22, 23, 24, 25, 26, 27, 28, 29, 30, 31, 32, 33, 34, 35, 36, 37, 38, 39, 40, 41, 42, 43, 44, 45, 46, 47, 48, 49, 50, 51, 52, 53, 54, 55, 56, 57, 58, 59, 60, 61, 62, 63, 64, 65] (by decide +kernel) (by decide +kernel)
set_option maxRecDepth 20000 in
theorem gX5_takenThen_X5_blocked : GoodIn wsX5_takenThen (wsV RX5 165 RX5 yX5_blocked wsX5_blocked) := goodIn_app (goodIn_of _ (by decide +kernel)) ggX5_takenThen_X5_blocked
theorem dX5_takenThen_0 : decode cX5_takenThen 0 = .ok (.aload_n 0, 1) := by decide +kernel
theorem dX5_takenThen_1 : decode cX5_takenThen 1 = .ok (.iload_n 1, 1) := by decide +kernel
theorem dX5_takenThen_2 : decode cX5_takenThen 2 = .ok (.iload_n 2, 1) := by decide +kernel
theorem dX5_takenThen_3 : decode cX5_takenThen 3 = .ok (.invokevirtual 58, 3) := by decide +kernel
theorem dX5_takenThen_6 : decode cX5_takenThen 6 = .ok (.ifCond .eq 7, 3) := by decide +kernel
theorem dX5_takenThen_9 : decode cX5_takenThen 9 = .ok (.iconst 0, 1) := by decide +kernel
theorem dX5_takenThen_10 : decode cX5_takenThen 10 = .ok (.goto 10, 3) := by decide +kernel
theorem dX5_takenThen_13 : decode cX5_takenThen 13 = .ok (.aload_n 0, 1) := by decide +kernel
theorem dX5_takenThen_14 : decode cX5_takenThen 14 = .ok (.iload_n 1, 1) := by decide +kernel
theorem dX5_takenThen_15 : decode cX5_takenThen 15 = .ok (.iload_n 2, 1) := by decide +kernel
theorem dX5_takenThen_16 : decode cX5_takenThen 16 = .ok (.iconst 1, 1) := by decide +kernel
theorem dX5_takenThen_17 : decode cX5_takenThen 17 = .ok (.invokevirtual 165, 3) := by decide +kernel
theorem dX5_takenThen_20 : decode cX5_takenThen 20 = .ok (.ireturn, 1) := by decide +kernel
set_option maxRecDepth 20000 in
theorem ggX5_ifTaken_X5_isSeat : GoodIn wsX5_ifTaken wsX5_isSeat := goodIn_r _ [6, 7, 8, 9, 5, 10, 11, 12, 13, 14, 15, 16, 17, 18, 70, 71, 72, 73, 74, 75, 76, 77, 78, 79, 80, 81] (by decide +kernel) (by decide +kernel)
set_option maxRecDepth 20000 in
theorem gX5_ifTaken_X5_isSeat : GoodIn wsX5_ifTaken (wsV RX5 113 RX5 yX5_isSeat wsX5_isSeat) := goodIn_app (goodIn_of _ (by decide +kernel)) ggX5_ifTaken_X5_isSeat
set_option maxRecDepth 20000 in
theorem ggX5_ifTaken_X5_takenThen : GoodIn wsX5_ifTaken wsX5_takenThen := goodIn_r _ [22, 23, 24, 25, 5, 26, 15, 16, 17, 18, 11, 27, 28, 29, 30, 31, 32, 33, 34, 35, 36, 37, 38, 39, 40, 41, 42, 43, 44, 45, 46, 47, 48, 49, 50, 51, 52, 53, 54, 55, 56, 57, 58, 59, 60, 61, 62, 63, 64, 65, 66, 67, 68, 69, 70, 71, 72, 73, 74, 75, 76, 77, 78, 79, 80, 81] (by decide +kernel) (by decide +kernel)
set_option maxRecDepth 20000 in
theorem gX5_ifTaken_X5_takenThen : GoodIn wsX5_ifTaken (wsV RX5 206 RX5 yX5_takenThen wsX5_takenThen) := goodIn_app (goodIn_of _ (by decide +kernel)) ggX5_ifTaken_X5_takenThen
theorem dX5_ifTaken_0 : decode cX5_ifTaken 0 = .ok (.aload_n 0, 1) := by decide +kernel
theorem dX5_ifTaken_1 : decode cX5_ifTaken 1 = .ok (.aload_n 0, 1) := by decide +kernel
theorem dX5_ifTaken_2 : decode cX5_ifTaken 2 = .ok (.iload_n 1, 1) := by decide +kernel
theorem dX5_ifTaken_3 : decode cX5_ifTaken 3 = .ok (.iload_n 2, 1) := by decide +kernel
theorem dX5_ifTaken_4 : decode cX5_ifTaken 4 = .ok (.invokevirtual 113, 3) := by decide +kernel
theorem dX5_ifTaken_7 : decode cX5_ifTaken 7 = .ok (.ifCond .eq 7, 3) := by decide +kernel
theorem dX5_ifTaken_10 : decode cX5_ifTaken 10 = .ok (.iconst 0, 1) := by decide +kernel
theorem dX5_ifTaken_11 : decode cX5_ifTaken 11 = .ok (.goto 4, 3) := by decide +kernel
theorem dX5_ifTaken_14 : decode cX5_ifTaken 14 = .ok (.iconst 1, 1) := by decide +kernel
theorem dX5_ifTaken_15 : decode cX5_ifTaken 15 = .ok (.putfield 25, 3) := by decide +kernel
theorem dX5_ifTaken_18 : decode cX5_ifTaken 18 = .ok (.aload_n 0, 1) := by decide +kernel
theorem dX5_ifTaken_19 : decode cX5_ifTaken 19 = .ok (.getfield 25, 3) := by decide +kernel
theorem dX5_ifTaken_22 : decode cX5_ifTaken 22 = .ok (.ifCond .le 7, 3) := by decide +kernel
theorem dX5_ifTaken_25 : decode cX5_ifTaken 25 = .ok (.iconst 0, 1) := by decide +kernel
theorem dX5_ifTaken_26 : decode cX5_ifTaken 26 = .ok (.goto 9, 3) := by decide +kernel
theorem dX5_ifTaken_29 : decode cX5_ifTaken 29 = .ok (.aload_n 0, 1) := by decide +kernel
theorem dX5_ifTaken_30 : decode cX5_ifTaken 30 = .ok (.iload_n 1, 1) := by decide +kernel
theorem dX5_ifTaken_31 : decode cX5_ifTaken 31 = .ok (.iload_n 2, 1) := by decide +kernel
theorem dX5_ifTaken_32 : decode cX5_ifTaken 32 = .ok (.invokevirtual 206, 3) := by decide +kernel
theorem dX5_ifTaken_35 : decode cX5_ifTaken 35 = .ok (.ireturn, 1) := by decide +kernel
set_option maxRecDepth 20000 in
theorem ggX5_seeingWithout_X5_of : GoodIn wsX5_seeingWithout wsX5_of := goodIn_r _ [6, 1, 42, 43, 44, 45, 46, 47, 48, 49, 50, 51, 52, 53] (by decide +kernel) (by decide +kernel)
set_option maxRecDepth 20000 in
theorem gX5_seeingWithout_X5_of : GoodIn wsX5_seeingWithout (wsV RX5 40 RX5 yX5_of wsX5_of) := goodIn_app (goodIn_of _ (by decide +kernel)) ggX5_seeingWithout_X5_of
set_option maxRecDepth 20000 in
theorem ggX5_seeingWithout_X5_peopleInWay : GoodIn wsX5_seeingWithout wsX5_peopleInWay := goodIn_r _ [10, 2, 3, 4, 5, 6, 1, 11, 12, 13, 14, 15, 16, 17, 18, 19, 20, 21, 22, 23, 24, 25, 26, 27, 28, 29, 42, 43, 44, 45, 46, 47, 48, 49, 50, 51, 52, 53] (by decide +kernel) (by decide +kernel)
set_option maxRecDepth 20000 in
theorem gX5_seeingWithout_X5_peopleInWay : GoodIn wsX5_seeingWithout (wsV RX5 68 RX5 yX5_peopleInWay wsX5_peopleInWay) := goodIn_app (goodIn_of _ (by decide +kernel)) ggX5_seeingWithout_X5_peopleInWay
set_option maxRecDepth 20000 in
theorem ggX5_seeingWithout_X5_columnsInWay : GoodIn wsX5_seeingWithout wsX5_columnsInWay := goodIn_r _ [33, 1, 34, 35, 36, 5, 37, 38, 39, 40, 41, 2, 3, 4, 6, 23, 24, 25, 26, 27, 28, 29, 42, 43, 44, 45, 46, 47, 48, 49, 50, 51, 52, 53] (by decide +kernel) (by decide +kernel)
set_option maxRecDepth 20000 in
theorem gX5_seeingWithout_X5_columnsInWay : GoodIn wsX5_seeingWithout (wsV RX5 71 RX5 yX5_columnsInWay wsX5_columnsInWay) := goodIn_app (goodIn_of _ (by decide +kernel)) ggX5_seeingWithout_X5_columnsInWay
theorem dX5_seeingWithout_0 : decode cX5_seeingWithout 0 = .ok (.iconst 0, 1) := by decide +kernel
theorem dX5_seeingWithout_1 : decode cX5_seeingWithout 1 = .ok (.istore_n 2, 1) := by decide +kernel
theorem dX5_seeingWithout_2 : decode cX5_seeingWithout 2 = .ok (.iconst 0, 1) := by decide +kernel
theorem dX5_seeingWithout_3 : decode cX5_seeingWithout 3 = .ok (.istore_n 3, 1) := by decide +kernel
theorem dX5_seeingWithout_4 : decode cX5_seeingWithout 4 = .ok (.iload_n 3, 1) := by decide +kernel
theorem dX5_seeingWithout_5 : decode cX5_seeingWithout 5 = .ok (.aload_n 0, 1) := by decide +kernel
theorem dX5_seeingWithout_6 : decode cX5_seeingWithout 6 = .ok (.getfield 7, 3) := by decide +kernel
theorem dX5_seeingWithout_9 : decode cX5_seeingWithout 9 = .ok (.iconst 3, 1) := by decide +kernel
theorem dX5_seeingWithout_10 : decode cX5_seeingWithout 10 = .ok (.iaload, 1) := by decide +kernel
theorem dX5_seeingWithout_11 : decode cX5_seeingWithout 11 = .ok (.if_icmp .ge 56, 3) := by decide +kernel
theorem dX5_seeingWithout_14 : decode cX5_seeingWithout 14 = .ok (.iconst 0, 1) := by decide +kernel
theorem dX5_seeingWithout_15 : decode cX5_seeingWithout 15 = .ok (.istore 4, 2) := by decide +kernel
theorem dX5_seeingWithout_17 : decode cX5_seeingWithout 17 = .ok (.iload 4, 2) := by decide +kernel
theorem dX5_seeingWithout_19 : decode cX5_seeingWithout 19 = .ok (.aload_n 0, 1) := by decide +kernel
theorem dX5_seeingWithout_20 : decode cX5_seeingWithout 20 = .ok (.iload_n 3, 1) := by decide +kernel
theorem dX5_seeingWithout_21 : decode cX5_seeingWithout 21 = .ok (.iconst 2, 1) := by decide +kernel
theorem dX5_seeingWithout_22 : decode cX5_seeingWithout 22 = .ok (.invokevirtual 40, 3) := by decide +kernel
theorem dX5_seeingWithout_25 : decode cX5_seeingWithout 25 = .ok (.if_icmp .ge 36, 3) := by decide +kernel
theorem dX5_seeingWithout_28 : decode cX5_seeingWithout 28 = .ok (.iload_n 2, 1) := by decide +kernel
theorem dX5_seeingWithout_29 : decode cX5_seeingWithout 29 = .ok (.aload_n 0, 1) := by decide +kernel
theorem dX5_seeingWithout_30 : decode cX5_seeingWithout 30 = .ok (.iload_n 3, 1) := by decide +kernel
theorem dX5_seeingWithout_31 : decode cX5_seeingWithout 31 = .ok (.iload 4, 2) := by decide +kernel
theorem dX5_seeingWithout_33 : decode cX5_seeingWithout 33 = .ok (.invokevirtual 68, 3) := by decide +kernel
theorem dX5_seeingWithout_36 : decode cX5_seeingWithout 36 = .ok (.aload_n 0, 1) := by decide +kernel
theorem dX5_seeingWithout_37 : decode cX5_seeingWithout 37 = .ok (.iload_n 3, 1) := by decide +kernel
theorem dX5_seeingWithout_38 : decode cX5_seeingWithout 38 = .ok (.iload 4, 2) := by decide +kernel
theorem dX5_seeingWithout_40 : decode cX5_seeingWithout 40 = .ok (.iload_n 1, 1) := by decide +kernel
theorem dX5_seeingWithout_41 : decode cX5_seeingWithout 41 = .ok (.invokevirtual 71, 3) := by decide +kernel
theorem dX5_seeingWithout_44 : decode cX5_seeingWithout 44 = .ok (.iadd, 1) := by decide +kernel
theorem dX5_seeingWithout_45 : decode cX5_seeingWithout 45 = .ok (.ifCond .ne 7, 3) := by decide +kernel
theorem dX5_seeingWithout_48 : decode cX5_seeingWithout 48 = .ok (.iconst 1, 1) := by decide +kernel
theorem dX5_seeingWithout_49 : decode cX5_seeingWithout 49 = .ok (.goto 4, 3) := by decide +kernel
theorem dX5_seeingWithout_52 : decode cX5_seeingWithout 52 = .ok (.iconst 0, 1) := by decide +kernel
theorem dX5_seeingWithout_53 : decode cX5_seeingWithout 53 = .ok (.iadd, 1) := by decide +kernel
theorem dX5_seeingWithout_54 : decode cX5_seeingWithout 54 = .ok (.istore_n 2, 1) := by decide +kernel
theorem dX5_seeingWithout_55 : decode cX5_seeingWithout 55 = .ok (.iinc 4 1, 3) := by decide +kernel
theorem dX5_seeingWithout_58 : decode cX5_seeingWithout 58 = .ok (.goto (-41), 3) := by decide +kernel
theorem dX5_seeingWithout_61 : decode cX5_seeingWithout 61 = .ok (.iinc 3 1, 3) := by decide +kernel
theorem dX5_seeingWithout_64 : decode cX5_seeingWithout 64 = .ok (.goto (-60), 3) := by decide +kernel
theorem dX5_seeingWithout_67 : decode cX5_seeingWithout 67 = .ok (.iload_n 2, 1) := by decide +kernel
theorem dX5_seeingWithout_68 : decode cX5_seeingWithout 68 = .ok (.ireturn, 1) := by decide +kernel
set_option maxRecDepth 20000 in
theorem ggX5_worstNow_X5_seeingWithout : GoodIn wsX5_worstNow wsX5_seeingWithout := goodIn_r _ [6, 1, 7, 8, 9, 5, 10, 11, 12, 13, 14, 15, 16, 17, 18, 19, 20, 21, 22, 23, 24, 25, 26, 27, 28, 29, 30, 31, 32, 33, 34, 35, 36, 37, 38, 39, 40, 41, 42, 43, 44, 45, 46, 47, 48, 49, 50, 51, 52, 53, 54, 55, 56, 57] (by decide +kernel) (by decide +kernel)
set_option maxRecDepth 20000 in
theorem gX5_worstNow_X5_seeingWithout : GoodIn wsX5_worstNow (wsV RX5 209 RX5 yX5_seeingWithout wsX5_seeingWithout) := goodIn_app (goodIn_of _ (by decide +kernel)) ggX5_worstNow_X5_seeingWithout
theorem dX5_worstNow_0 : decode cX5_worstNow 0 = .ok (.iconst (-1), 1) := by decide +kernel
theorem dX5_worstNow_1 : decode cX5_worstNow 1 = .ok (.istore_n 1, 1) := by decide +kernel
theorem dX5_worstNow_2 : decode cX5_worstNow 2 = .ok (.iconst (-1), 1) := by decide +kernel
theorem dX5_worstNow_3 : decode cX5_worstNow 3 = .ok (.istore_n 2, 1) := by decide +kernel
theorem dX5_worstNow_4 : decode cX5_worstNow 4 = .ok (.iconst 0, 1) := by decide +kernel
theorem dX5_worstNow_5 : decode cX5_worstNow 5 = .ok (.istore_n 3, 1) := by decide +kernel
theorem dX5_worstNow_6 : decode cX5_worstNow 6 = .ok (.iload_n 3, 1) := by decide +kernel
theorem dX5_worstNow_7 : decode cX5_worstNow 7 = .ok (.aload_n 0, 1) := by decide +kernel
theorem dX5_worstNow_8 : decode cX5_worstNow 8 = .ok (.getfield 7, 3) := by decide +kernel
theorem dX5_worstNow_11 : decode cX5_worstNow 11 = .ok (.iconst 4, 1) := by decide +kernel
theorem dX5_worstNow_12 : decode cX5_worstNow 12 = .ok (.iaload, 1) := by decide +kernel
theorem dX5_worstNow_13 : decode cX5_worstNow 13 = .ok (.if_icmp .ge 41, 3) := by decide +kernel
theorem dX5_worstNow_16 : decode cX5_worstNow 16 = .ok (.aload_n 0, 1) := by decide +kernel
theorem dX5_worstNow_17 : decode cX5_worstNow 17 = .ok (.iload_n 3, 1) := by decide +kernel
theorem dX5_worstNow_18 : decode cX5_worstNow 18 = .ok (.invokevirtual 209, 3) := by decide +kernel
theorem dX5_worstNow_21 : decode cX5_worstNow 21 = .ok (.istore 4, 2) := by decide +kernel
theorem dX5_worstNow_23 : decode cX5_worstNow 23 = .ok (.iload 4, 2) := by decide +kernel
theorem dX5_worstNow_25 : decode cX5_worstNow 25 = .ok (.iload_n 2, 1) := by decide +kernel
theorem dX5_worstNow_26 : decode cX5_worstNow 26 = .ok (.if_icmp .le 7, 3) := by decide +kernel
theorem dX5_worstNow_29 : decode cX5_worstNow 29 = .ok (.iload_n 3, 1) := by decide +kernel
theorem dX5_worstNow_30 : decode cX5_worstNow 30 = .ok (.goto 4, 3) := by decide +kernel
theorem dX5_worstNow_33 : decode cX5_worstNow 33 = .ok (.iload_n 1, 1) := by decide +kernel
theorem dX5_worstNow_34 : decode cX5_worstNow 34 = .ok (.istore_n 1, 1) := by decide +kernel
theorem dX5_worstNow_35 : decode cX5_worstNow 35 = .ok (.iload 4, 2) := by decide +kernel
theorem dX5_worstNow_37 : decode cX5_worstNow 37 = .ok (.iload_n 2, 1) := by decide +kernel
theorem dX5_worstNow_38 : decode cX5_worstNow 38 = .ok (.if_icmp .le 8, 3) := by decide +kernel
theorem dX5_worstNow_41 : decode cX5_worstNow 41 = .ok (.iload 4, 2) := by decide +kernel
theorem dX5_worstNow_43 : decode cX5_worstNow 43 = .ok (.goto 4, 3) := by decide +kernel
theorem dX5_worstNow_46 : decode cX5_worstNow 46 = .ok (.iload_n 2, 1) := by decide +kernel
theorem dX5_worstNow_47 : decode cX5_worstNow 47 = .ok (.istore_n 2, 1) := by decide +kernel
theorem dX5_worstNow_48 : decode cX5_worstNow 48 = .ok (.iinc 3 1, 3) := by decide +kernel
theorem dX5_worstNow_51 : decode cX5_worstNow 51 = .ok (.goto (-45), 3) := by decide +kernel
theorem dX5_worstNow_54 : decode cX5_worstNow 54 = .ok (.iload_n 1, 1) := by decide +kernel
theorem dX5_worstNow_55 : decode cX5_worstNow 55 = .ok (.ireturn, 1) := by decide +kernel
set_option maxRecDepth 20000 in
theorem ggX5_worstColumn_X5_worstNow : GoodIn wsX5_worstColumn wsX5_worstNow := goodIn_r _ [6, 7, 8, 9, 10, 5, 11, 12, 13, 14, 15, 16, 17, 18, 19, 20, 21, 22, 23, 24, 25, 26, 27, 28, 29, 30, 31, 32, 33, 34, 35, 36, 37, 38, 39, 40, 41, 42, 43, 44, 45, 46, 47, 48, 49, 50, 51, 52, 53, 54, 55, 56, 57, 58, 59, 60, 61, 62] (by decide +kernel) (by decide +kernel)
set_option maxRecDepth 20000 in
theorem gX5_worstColumn_X5_worstNow : GoodIn wsX5_worstColumn (wsV RX5 212 RX5 yX5_worstNow wsX5_worstNow) := goodIn_app (goodIn_of _ (by decide +kernel)) ggX5_worstColumn_X5_worstNow
theorem dX5_worstColumn_0 : decode cX5_worstColumn 0 = .ok (.aload_n 0, 1) := by decide +kernel
theorem dX5_worstColumn_1 : decode cX5_worstColumn 1 = .ok (.iconst 0, 1) := by decide +kernel
theorem dX5_worstColumn_2 : decode cX5_worstColumn 2 = .ok (.putfield 25, 3) := by decide +kernel
theorem dX5_worstColumn_5 : decode cX5_worstColumn 5 = .ok (.aload_n 0, 1) := by decide +kernel
theorem dX5_worstColumn_6 : decode cX5_worstColumn 6 = .ok (.invokevirtual 212, 3) := by decide +kernel
theorem dX5_worstColumn_9 : decode cX5_worstColumn 9 = .ok (.ireturn, 1) := by decide +kernel
set_option maxRecDepth 20000 in
theorem ggX5_share_X5_allTaken : GoodIn wsX5_share wsX5_allTaken := goodIn_r _ [5, 6, 7, 8, 9, 4, 10, 11, 12, 13, 14, 15, 16, 17, 18, 66, 67, 68, 69, 70, 71, 72, 73, 74, 75, 76, 77] (by decide +kernel) (by decide +kernel)
set_option maxRecDepth 20000 in
theorem gX5_share_X5_allTaken : GoodIn wsX5_share (wsV RX5 116 RX5 yX5_allTaken wsX5_allTaken) := goodIn_app (goodIn_of _ (by decide +kernel)) ggX5_share_X5_allTaken
set_option maxRecDepth 20000 in
theorem ggX5_share_X5_seeing : GoodIn wsX5_share wsX5_seeing := goodIn_r _ [22, 6, 23, 24, 25, 4, 26, 11, 12, 13, 14, 15, 16, 17, 18, 27, 28, 29, 30, 31, 32, 33, 34, 35, 36, 37, 38, 39, 40, 41, 42, 43, 44, 45, 46, 47, 48, 49, 50, 51, 52, 53, 54, 55, 56, 57, 58, 59, 60, 61, 62, 63, 64, 65, 66, 67, 68, 69, 70, 71, 72, 73, 74, 75, 76, 77] (by decide +kernel) (by decide +kernel)
set_option maxRecDepth 20000 in
theorem gX5_share_X5_seeing : GoodIn wsX5_share (wsV RX5 190 RX5 yX5_seeing wsX5_seeing) := goodIn_app (goodIn_of _ (by decide +kernel)) ggX5_share_X5_seeing
theorem dX5_share_0 : decode cX5_share 0 = .ok (.aload_n 0, 1) := by decide +kernel
theorem dX5_share_1 : decode cX5_share 1 = .ok (.invokevirtual 116, 3) := by decide +kernel
theorem dX5_share_4 : decode cX5_share 4 = .ok (.istore_n 1, 1) := by decide +kernel
theorem dX5_share_5 : decode cX5_share 5 = .ok (.iload_n 1, 1) := by decide +kernel
theorem dX5_share_6 : decode cX5_share 6 = .ok (.ifCond .ne 7, 3) := by decide +kernel
theorem dX5_share_9 : decode cX5_share 9 = .ok (.dconst 1, 1) := by decide +kernel
theorem dX5_share_10 : decode cX5_share 10 = .ok (.goto 12, 3) := by decide +kernel
theorem dX5_share_13 : decode cX5_share 13 = .ok (.aload_n 0, 1) := by decide +kernel
theorem dX5_share_14 : decode cX5_share 14 = .ok (.iconst 1, 1) := by decide +kernel
theorem dX5_share_15 : decode cX5_share 15 = .ok (.invokevirtual 190, 3) := by decide +kernel
theorem dX5_share_18 : decode cX5_share 18 = .ok (.i2d, 1) := by decide +kernel
theorem dX5_share_19 : decode cX5_share 19 = .ok (.iload_n 1, 1) := by decide +kernel
theorem dX5_share_20 : decode cX5_share 20 = .ok (.i2d, 1) := by decide +kernel
theorem dX5_share_21 : decode cX5_share 21 = .ok (.ddiv, 1) := by decide +kernel
theorem dX5_share_22 : decode cX5_share 22 = .ok (.dreturn, 1) := by decide +kernel
set_option maxRecDepth 20000 in
theorem ggX5_seeingShare_X5_share : GoodIn wsX5_seeingShare wsX5_share := goodIn_r _ [6, 7, 8, 9, 5, 10, 11, 12, 13, 14, 15, 16, 17, 18, 19, 20, 21, 22, 23, 24, 25, 26, 27, 28, 29, 30, 31, 32, 33, 34, 35, 36, 37, 38, 39, 40, 41, 42, 43, 44, 45, 46, 47, 48, 49, 50, 51, 52, 53, 54, 55, 56, 57, 58, 59, 60, 61, 62, 63, 64, 65, 66, 67, 68, 69, 70, 71, 72, 73, 74, 75, 76, 77, 78, 79, 80, 81, 82] (by decide +kernel) (by decide +kernel)
set_option maxRecDepth 20000 in
theorem gX5_seeingShare_X5_share : GoodIn wsX5_seeingShare (wsV RX5 215 RX5 yX5_share wsX5_share) := goodIn_app (goodIn_of _ (by decide +kernel)) ggX5_seeingShare_X5_share
theorem dX5_seeingShare_0 : decode cX5_seeingShare 0 = .ok (.aload_n 0, 1) := by decide +kernel
theorem dX5_seeingShare_1 : decode cX5_seeingShare 1 = .ok (.iconst 0, 1) := by decide +kernel
theorem dX5_seeingShare_2 : decode cX5_seeingShare 2 = .ok (.putfield 25, 3) := by decide +kernel
theorem dX5_seeingShare_5 : decode cX5_seeingShare 5 = .ok (.aload_n 0, 1) := by decide +kernel
theorem dX5_seeingShare_6 : decode cX5_seeingShare 6 = .ok (.invokevirtual 215, 3) := by decide +kernel
theorem dX5_seeingShare_9 : decode cX5_seeingShare 9 = .ok (.dreturn, 1) := by decide +kernel
theorem dX5_mix_0 : decode cX5_mix 0 = .ok (.aload_n 0, 1) := by decide +kernel
theorem dX5_mix_1 : decode cX5_mix 1 = .ok (.ldc2_w 219, 3) := by decide +kernel
theorem dX5_mix_4 : decode cX5_mix 4 = .ok (.aload_n 0, 1) := by decide +kernel
theorem dX5_mix_5 : decode cX5_mix 5 = .ok (.getfield 221, 3) := by decide +kernel
theorem dX5_mix_8 : decode cX5_mix 8 = .ok (.lmul, 1) := by decide +kernel
theorem dX5_mix_9 : decode cX5_mix 9 = .ok (.lload_n 1, 1) := by decide +kernel
theorem dX5_mix_10 : decode cX5_mix 10 = .ok (.ladd, 1) := by decide +kernel
theorem dX5_mix_11 : decode cX5_mix 11 = .ok (.putfield 221, 3) := by decide +kernel
theorem dX5_mix_14 : decode cX5_mix 14 = .ok (.return_, 1) := by decide +kernel
set_option maxRecDepth 20000 in
theorem ggX5_mixRow_X5_rowNow : GoodIn wsX5_mixRow wsX5_rowNow := goodIn_r _ [5, 6, 7, 8, 4, 9, 10, 11, 12, 13, 14, 15, 16, 17, 18, 19, 20, 21, 22, 23, 24, 25, 26, 27, 28, 29, 30, 31, 32, 33, 34, 35, 36, 37, 38, 39, 40, 41, 42, 43, 44, 45, 46, 47, 48, 49, 50, 51, 52, 53, 54, 55, 56, 57, 58, 59, 60, 61, 116, 117, 118, 119, 120, 121, 122, 123, 124, 125, 126, 127] (by decide +kernel) (by decide +kernel)
set_option maxRecDepth 20000 in
theorem gX5_mixRow_X5_rowNow : GoodIn wsX5_mixRow (wsV RX5 159 RX5 yX5_rowNow wsX5_rowNow) := goodIn_app (goodIn_of _ (by decide +kernel)) ggX5_mixRow_X5_rowNow
set_option maxRecDepth 20000 in
theorem ggX5_mixRow_X5_mix : GoodIn wsX5_mixRow wsX5_mix := goodIn_r _ [65, 66, 67, 116, 117, 118, 119, 120, 121, 122, 123, 124, 125, 126, 127] (by decide +kernel) (by decide +kernel)
set_option maxRecDepth 20000 in
theorem gX5_mixRow_X5_mix : GoodIn wsX5_mixRow (wsV RX5 225 RX5 yX5_mix wsX5_mix) := goodIn_app (goodIn_of _ (by decide +kernel)) ggX5_mixRow_X5_mix
set_option maxRecDepth 20000 in
theorem ggX5_mixRow_X5_leastFor : GoodIn wsX5_mixRow wsX5_leastFor := goodIn_r _ [71, 10, 6, 7, 8, 4, 9, 72, 73, 74, 116, 117, 118, 119, 120, 121, 122, 123, 124, 125, 126, 127] (by decide +kernel) (by decide +kernel)
set_option maxRecDepth 20000 in
theorem gX5_mixRow_X5_leastFor : GoodIn wsX5_mixRow (wsV RX5 128 RX5 yX5_leastFor wsX5_leastFor) := goodIn_app (goodIn_of _ (by decide +kernel)) ggX5_mixRow_X5_leastFor
set_option maxRecDepth 20000 in
theorem ggX5_mixRow_X5_liftedThen : GoodIn wsX5_mixRow wsX5_liftedThen := goodIn_r _ [78, 6, 7, 8, 4, 9, 10, 79, 80, 81, 82, 83, 84, 85, 86, 19, 20, 21, 22, 15, 16, 17, 18, 23, 24, 25, 26, 27, 28, 29, 30, 31, 32, 33, 34, 35, 36, 37, 38, 39, 40, 41, 42, 43, 44, 45, 46, 47, 48, 49, 50, 51, 52, 53, 54, 55, 56, 57, 58, 59, 60, 61, 116, 117, 118, 119, 120, 121, 122, 123, 124, 125, 126, 127] (by decide +kernel) (by decide +kernel)
set_option maxRecDepth 20000 in
theorem gX5_mixRow_X5_liftedThen : GoodIn wsX5_mixRow (wsV RX5 203 RX5 yX5_liftedThen wsX5_liftedThen) := goodIn_app (goodIn_of _ (by decide +kernel)) ggX5_mixRow_X5_liftedThen
set_option maxRecDepth 20000 in
theorem ggX5_mixRow_X5_of : GoodIn wsX5_mixRow wsX5_of := goodIn_r _ [9, 10, 116, 117, 118, 119, 120, 121, 122, 123, 124, 125, 126, 127] (by decide +kernel) (by decide +kernel)
set_option maxRecDepth 20000 in
theorem gX5_mixRow_X5_of : GoodIn wsX5_mixRow (wsV RX5 40 RX5 yX5_of wsX5_of) := goodIn_app (goodIn_of _ (by decide +kernel)) ggX5_mixRow_X5_of
set_option maxRecDepth 20000 in
theorem ggX5_mixRow_X5_seatNow : GoodIn wsX5_mixRow wsX5_seatNow := goodIn_r _ [90, 43, 44, 45, 4, 46, 6, 7, 8, 9, 10, 15, 16, 17, 18, 31, 32, 33, 34, 35, 36, 37, 38, 39, 40, 41, 42, 47, 48, 49, 50, 51, 52, 53, 54, 55, 56, 57, 58, 59, 60, 61, 23, 24, 25, 26, 27, 28, 29, 30, 91, 92, 93, 94, 95, 96, 97, 98, 99, 100, 101, 102, 103, 104, 105, 106, 107, 116, 117, 118, 119, 120, 121, 122, 123, 124, 125, 126, 127] (by decide +kernel) (by decide +kernel)
set_option maxRecDepth 20000 in
theorem gX5_mixRow_X5_seatNow : GoodIn wsX5_mixRow (wsV RX5 175 RX5 yX5_seatNow wsX5_seatNow) := goodIn_app (goodIn_of _ (by decide +kernel)) ggX5_mixRow_X5_seatNow
set_option maxRecDepth 20000 in
theorem ggX5_mixRow_X5_blockerOf : GoodIn wsX5_mixRow wsX5_blockerOf := goodIn_r _ [111, 6, 7, 8, 4, 9, 10, 15, 16, 17, 18, 35, 36, 37, 38, 39, 40, 41, 42, 43, 44, 45, 46, 47, 48, 49, 116, 117, 118, 119, 120, 121, 122, 123, 124, 125, 126, 127] (by decide +kernel) (by decide +kernel)
set_option maxRecDepth 20000 in
theorem gX5_mixRow_X5_blockerOf : GoodIn wsX5_mixRow (wsV RX5 187 RX5 yX5_blockerOf wsX5_blockerOf) := goodIn_app (goodIn_of _ (by decide +kernel)) ggX5_mixRow_X5_blockerOf
set_option maxRecDepth 20000 in
theorem ggX5_mixRow_X5_takenThen : GoodIn wsX5_mixRow wsX5_takenThen := goodIn_r _ [115, 15, 16, 17, 4, 18, 6, 7, 8, 9, 10, 91, 92, 93, 94, 35, 36, 37, 38, 39, 40, 41, 42, 43, 44, 45, 46, 47, 48, 49, 23, 24, 25, 26, 27, 28, 29, 30, 31, 32, 33, 34, 50, 51, 52, 53, 54, 55, 56, 57, 58, 59, 60, 61, 116, 117, 118, 119, 120, 121, 122, 123, 124, 125, 126, 127] (by decide +kernel) (by decide +kernel)
set_option maxRecDepth 20000 in
theorem gX5_mixRow_X5_takenThen : GoodIn wsX5_mixRow (wsV RX5 206 RX5 yX5_takenThen wsX5_takenThen) := goodIn_app (goodIn_of _ (by decide +kernel)) ggX5_mixRow_X5_takenThen
theorem dX5_mixRow_0 : decode cX5_mixRow 0 = .ok (.iconst 0, 1) := by decide +kernel
theorem dX5_mixRow_1 : decode cX5_mixRow 1 = .ok (.istore_n 2, 1) := by decide +kernel
theorem dX5_mixRow_2 : decode cX5_mixRow 2 = .ok (.iload_n 2, 1) := by decide +kernel
theorem dX5_mixRow_3 : decode cX5_mixRow 3 = .ok (.bipush 6, 2) := by decide +kernel
theorem dX5_mixRow_5 : decode cX5_mixRow 5 = .ok (.if_icmp .ge 20, 3) := by decide +kernel
theorem dX5_mixRow_8 : decode cX5_mixRow 8 = .ok (.aload_n 0, 1) := by decide +kernel
theorem dX5_mixRow_9 : decode cX5_mixRow 9 = .ok (.aload_n 0, 1) := by decide +kernel
theorem dX5_mixRow_10 : decode cX5_mixRow 10 = .ok (.iload_n 1, 1) := by decide +kernel
theorem dX5_mixRow_11 : decode cX5_mixRow 11 = .ok (.iload_n 2, 1) := by decide +kernel
theorem dX5_mixRow_12 : decode cX5_mixRow 12 = .ok (.invokevirtual 159, 3) := by decide +kernel
theorem dX5_mixRow_15 : decode cX5_mixRow 15 = .ok (.i2l, 1) := by decide +kernel
theorem dX5_mixRow_16 : decode cX5_mixRow 16 = .ok (.invokevirtual 225, 3) := by decide +kernel
theorem dX5_mixRow_19 : decode cX5_mixRow 19 = .ok (.iinc 2 1, 3) := by decide +kernel
theorem dX5_mixRow_22 : decode cX5_mixRow 22 = .ok (.goto (-20), 3) := by decide +kernel
theorem dX5_mixRow_25 : decode cX5_mixRow 25 = .ok (.aload_n 0, 1) := by decide +kernel
theorem dX5_mixRow_26 : decode cX5_mixRow 26 = .ok (.aload_n 0, 1) := by decide +kernel
theorem dX5_mixRow_27 : decode cX5_mixRow 27 = .ok (.iload_n 1, 1) := by decide +kernel
theorem dX5_mixRow_28 : decode cX5_mixRow 28 = .ok (.invokevirtual 128, 3) := by decide +kernel
theorem dX5_mixRow_31 : decode cX5_mixRow 31 = .ok (.i2l, 1) := by decide +kernel
theorem dX5_mixRow_32 : decode cX5_mixRow 32 = .ok (.invokevirtual 225, 3) := by decide +kernel
theorem dX5_mixRow_35 : decode cX5_mixRow 35 = .ok (.aload_n 0, 1) := by decide +kernel
theorem dX5_mixRow_36 : decode cX5_mixRow 36 = .ok (.aload_n 0, 1) := by decide +kernel
theorem dX5_mixRow_37 : decode cX5_mixRow 37 = .ok (.iload_n 1, 1) := by decide +kernel
theorem dX5_mixRow_38 : decode cX5_mixRow 38 = .ok (.bipush 50, 2) := by decide +kernel
theorem dX5_mixRow_40 : decode cX5_mixRow 40 = .ok (.invokevirtual 203, 3) := by decide +kernel
theorem dX5_mixRow_43 : decode cX5_mixRow 43 = .ok (.i2l, 1) := by decide +kernel
theorem dX5_mixRow_44 : decode cX5_mixRow 44 = .ok (.invokevirtual 225, 3) := by decide +kernel
theorem dX5_mixRow_47 : decode cX5_mixRow 47 = .ok (.iconst 0, 1) := by decide +kernel
theorem dX5_mixRow_48 : decode cX5_mixRow 48 = .ok (.istore_n 2, 1) := by decide +kernel
theorem dX5_mixRow_49 : decode cX5_mixRow 49 = .ok (.iload_n 2, 1) := by decide +kernel
theorem dX5_mixRow_50 : decode cX5_mixRow 50 = .ok (.aload_n 0, 1) := by decide +kernel
theorem dX5_mixRow_51 : decode cX5_mixRow 51 = .ok (.iload_n 1, 1) := by decide +kernel
theorem dX5_mixRow_52 : decode cX5_mixRow 52 = .ok (.iconst 2, 1) := by decide +kernel
theorem dX5_mixRow_53 : decode cX5_mixRow 53 = .ok (.invokevirtual 40, 3) := by decide +kernel
theorem dX5_mixRow_56 : decode cX5_mixRow 56 = .ok (.if_icmp .ge 57, 3) := by decide +kernel
theorem dX5_mixRow_59 : decode cX5_mixRow 59 = .ok (.iconst 0, 1) := by decide +kernel
theorem dX5_mixRow_60 : decode cX5_mixRow 60 = .ok (.istore_n 3, 1) := by decide +kernel
theorem dX5_mixRow_61 : decode cX5_mixRow 61 = .ok (.iload_n 3, 1) := by decide +kernel
theorem dX5_mixRow_62 : decode cX5_mixRow 62 = .ok (.bipush 7, 2) := by decide +kernel
theorem dX5_mixRow_64 : decode cX5_mixRow 64 = .ok (.if_icmp .ge 21, 3) := by decide +kernel
theorem dX5_mixRow_67 : decode cX5_mixRow 67 = .ok (.aload_n 0, 1) := by decide +kernel
theorem dX5_mixRow_68 : decode cX5_mixRow 68 = .ok (.aload_n 0, 1) := by decide +kernel
theorem dX5_mixRow_69 : decode cX5_mixRow 69 = .ok (.iload_n 1, 1) := by decide +kernel
theorem dX5_mixRow_70 : decode cX5_mixRow 70 = .ok (.iload_n 2, 1) := by decide +kernel
theorem dX5_mixRow_71 : decode cX5_mixRow 71 = .ok (.iload_n 3, 1) := by decide +kernel
theorem dX5_mixRow_72 : decode cX5_mixRow 72 = .ok (.invokevirtual 175, 3) := by decide +kernel
theorem dX5_mixRow_75 : decode cX5_mixRow 75 = .ok (.i2l, 1) := by decide +kernel
theorem dX5_mixRow_76 : decode cX5_mixRow 76 = .ok (.invokevirtual 225, 3) := by decide +kernel
theorem dX5_mixRow_79 : decode cX5_mixRow 79 = .ok (.iinc 3 1, 3) := by decide +kernel
theorem dX5_mixRow_82 : decode cX5_mixRow 82 = .ok (.goto (-21), 3) := by decide +kernel
theorem dX5_mixRow_85 : decode cX5_mixRow 85 = .ok (.aload_n 0, 1) := by decide +kernel
theorem dX5_mixRow_86 : decode cX5_mixRow 86 = .ok (.aload_n 0, 1) := by decide +kernel
theorem dX5_mixRow_87 : decode cX5_mixRow 87 = .ok (.iload_n 1, 1) := by decide +kernel
theorem dX5_mixRow_88 : decode cX5_mixRow 88 = .ok (.iload_n 2, 1) := by decide +kernel
theorem dX5_mixRow_89 : decode cX5_mixRow 89 = .ok (.invokevirtual 187, 3) := by decide +kernel
theorem dX5_mixRow_92 : decode cX5_mixRow 92 = .ok (.i2l, 1) := by decide +kernel
theorem dX5_mixRow_93 : decode cX5_mixRow 93 = .ok (.invokevirtual 225, 3) := by decide +kernel
theorem dX5_mixRow_96 : decode cX5_mixRow 96 = .ok (.aload_n 0, 1) := by decide +kernel
theorem dX5_mixRow_97 : decode cX5_mixRow 97 = .ok (.aload_n 0, 1) := by decide +kernel
theorem dX5_mixRow_98 : decode cX5_mixRow 98 = .ok (.iload_n 1, 1) := by decide +kernel
theorem dX5_mixRow_99 : decode cX5_mixRow 99 = .ok (.iload_n 2, 1) := by decide +kernel
theorem dX5_mixRow_100 : decode cX5_mixRow 100 = .ok (.invokevirtual 206, 3) := by decide +kernel
theorem dX5_mixRow_103 : decode cX5_mixRow 103 = .ok (.i2l, 1) := by decide +kernel
theorem dX5_mixRow_104 : decode cX5_mixRow 104 = .ok (.invokevirtual 225, 3) := by decide +kernel
theorem dX5_mixRow_107 : decode cX5_mixRow 107 = .ok (.iinc 2 1, 3) := by decide +kernel
theorem dX5_mixRow_110 : decode cX5_mixRow 110 = .ok (.goto (-61), 3) := by decide +kernel
theorem dX5_mixRow_113 : decode cX5_mixRow 113 = .ok (.return_, 1) := by decide +kernel
set_option maxRecDepth 20000 in
theorem ggX5_digest_X5_counted : GoodIn wsX5_digest wsX5_counted := goodIn_r _ [11, 4, 12, 13, 14, 15, 10, 16, 17, 18, 19, 20, 21, 22, 23, 24, 25, 26, 27, 28, 29, 30, 31, 32, 33, 34, 35, 36, 37, 38, 39, 40, 41, 42, 43, 44, 45, 46, 47, 48, 49, 50, 51, 52, 53, 54, 55, 56, 57, 58, 59, 60, 61, 62, 63, 64, 65, 66, 67, 68, 69, 70, 71, 72, 73, 74, 75, 76, 77, 78, 79, 80, 81, 82, 83, 84, 85, 86, 87, 181, 182, 183, 184, 185, 186, 187, 188, 189, 190, 191, 192] (by decide +kernel) (by decide +kernel)
set_option maxRecDepth 20000 in
theorem gX5_digest_X5_counted : GoodIn wsX5_digest (wsV RX5 200 RX5 yX5_counted wsX5_counted) := goodIn_app (goodIn_of _ (by decide +kernel)) ggX5_digest_X5_counted
set_option maxRecDepth 20000 in
theorem ggX5_digest_X5_mix : GoodIn wsX5_digest wsX5_mix := goodIn_r _ [91, 92, 3, 181, 182, 183, 184, 185, 186, 187, 188, 189, 190, 191, 192] (by decide +kernel) (by decide +kernel)
set_option maxRecDepth 20000 in
theorem gX5_digest_X5_mix : GoodIn wsX5_digest (wsV RX5 225 RX5 yX5_mix wsX5_mix) := goodIn_app (goodIn_of _ (by decide +kernel)) ggX5_digest_X5_mix
set_option maxRecDepth 20000 in
theorem ggX5_digest_X5_mixRow : GoodIn wsX5_digest wsX5_mixRow := goodIn_r _ [96, 97, 98, 99, 10, 100, 17, 18, 19, 20, 4, 25, 26, 27, 28, 29, 30, 31, 32, 37, 38, 39, 40, 41, 42, 43, 44, 45, 46, 47, 48, 49, 50, 51, 52, 53, 54, 55, 56, 57, 58, 59, 60, 61, 62, 63, 64, 65, 66, 67, 68, 69, 70, 71, 72, 73, 74, 75, 76, 77, 78, 79, 88, 89, 90, 91, 92, 3, 101, 102, 103, 104, 105, 106, 107, 108, 109, 110, 111, 112, 113, 114, 115, 33, 34, 35, 36, 116, 117, 118, 119, 120, 121, 122, 123, 124, 125, 126, 127, 128, 129, 130, 131, 132, 133, 134, 135, 136, 137, 138, 139, 140, 141, 142, 143, 144, 181, 182, 183, 184, 185, 186, 187, 188, 189, 190, 191, 192] (by decide +kernel) (by decide +kernel)
set_option maxRecDepth 20000 in
theorem gX5_digest_X5_mixRow : GoodIn wsX5_digest (wsV RX5 231 RX5 yX5_mixRow wsX5_mixRow) := goodIn_app (goodIn_of _ (by decide +kernel)) ggX5_digest_X5_mixRow
set_option maxRecDepth 20000 in
theorem ggX5_digest_X5_columnNow : GoodIn wsX5_digest wsX5_columnNow := goodIn_r _ [148, 76, 77, 78, 10, 79, 4, 149, 150, 151, 152, 17, 18, 19, 20, 72, 73, 74, 75, 61, 62, 63, 64, 65, 66, 67, 181, 182, 183, 184, 185, 186, 187, 188, 189, 190, 191, 192] (by decide +kernel) (by decide +kernel)
set_option maxRecDepth 20000 in
theorem gX5_digest_X5_columnNow : GoodIn wsX5_digest (wsV RX5 181 RX5 yX5_columnNow wsX5_columnNow) := goodIn_app (goodIn_of _ (by decide +kernel)) ggX5_digest_X5_columnNow
set_option maxRecDepth 20000 in
theorem ggX5_digest_X5_bestAt : GoodIn wsX5_digest wsX5_bestAt := goodIn_r _ [156, 4, 124, 125, 126, 10, 127, 128, 17, 18, 19, 20, 45, 46, 47, 48, 49, 50, 51, 52, 29, 30, 31, 32, 53, 54, 55, 56, 57, 58, 59, 60, 61, 62, 63, 64, 65, 66, 67, 68, 69, 70, 71, 72, 73, 74, 75, 76, 77, 78, 79, 129, 130, 131, 132, 133, 134, 135, 136, 181, 182, 183, 184, 185, 186, 187, 188, 189, 190, 191, 192] (by decide +kernel) (by decide +kernel)
set_option maxRecDepth 20000 in
theorem gX5_digest_X5_bestAt : GoodIn wsX5_digest (wsV RX5 184 RX5 yX5_bestAt wsX5_bestAt) := goodIn_app (goodIn_of _ (by decide +kernel)) ggX5_digest_X5_bestAt
set_option maxRecDepth 20000 in
theorem ggX5_digest_X5_worstNow : GoodIn wsX5_digest wsX5_worstNow := goodIn_r _ [160, 4, 161, 162, 163, 10, 164, 17, 18, 19, 20, 49, 50, 51, 52, 29, 30, 31, 32, 53, 54, 55, 56, 57, 58, 59, 60, 61, 62, 63, 64, 65, 66, 67, 68, 69, 70, 71, 72, 73, 74, 75, 76, 77, 78, 79, 181, 182, 183, 184, 185, 186, 187, 188, 189, 190, 191, 192] (by decide +kernel) (by decide +kernel)
set_option maxRecDepth 20000 in
theorem gX5_digest_X5_worstNow : GoodIn wsX5_digest (wsV RX5 212 RX5 yX5_worstNow wsX5_worstNow) := goodIn_app (goodIn_of _ (by decide +kernel)) ggX5_digest_X5_worstNow
set_option maxRecDepth 20000 in
theorem ggX5_digest_X5_share : GoodIn wsX5_digest wsX5_share := goodIn_r _ [168, 21, 22, 23, 10, 24, 4, 25, 26, 27, 28, 17, 18, 19, 20, 29, 30, 31, 32, 33, 34, 35, 36, 37, 38, 39, 40, 41, 42, 43, 44, 45, 46, 47, 48, 49, 50, 51, 52, 53, 54, 55, 56, 57, 58, 59, 60, 61, 62, 63, 64, 65, 66, 67, 68, 69, 70, 71, 72, 73, 74, 75, 76, 77, 78, 79, 181, 182, 183, 184, 185, 186, 187, 188, 189, 190, 191, 192] (by decide +kernel) (by decide +kernel)
set_option maxRecDepth 20000 in
theorem gX5_digest_X5_share : GoodIn wsX5_digest (wsV RX5 215 RX5 yX5_share wsX5_share) := goodIn_app (goodIn_of _ (by decide +kernel)) ggX5_digest_X5_share
set_option maxRecDepth 20000 in
theorem ggX5_digest_Jxe99ae_doubleToLongBits_ccdee : GoodIn wsX5_digest wsJxe99ae_doubleToLongBits_ccdee := goodIn_r _ [172, 173, 174, 175, 176, 177, 178, 179, 171, 180] (by decide +kernel) (by decide +kernel)
set_option maxRecDepth 20000 in
theorem gX5_digest_Jxe99ae_doubleToLongBits_ccdee : GoodIn wsX5_digest (va_wsS RX5 235 yJxe99ae_doubleToLongBits_ccdee wsJxe99ae_doubleToLongBits_ccdee) := goodIn_app (goodIn_of _ (by decide +kernel)) ggX5_digest_Jxe99ae_doubleToLongBits_ccdee
theorem dX5_digest_0 : decode cX5_digest 0 = .ok (.aload_n 0, 1) := by decide +kernel
theorem dX5_digest_1 : decode cX5_digest 1 = .ok (.iconst 0, 1) := by decide +kernel
theorem dX5_digest_2 : decode cX5_digest 2 = .ok (.putfield 25, 3) := by decide +kernel
theorem dX5_digest_5 : decode cX5_digest 5 = .ok (.aload_n 0, 1) := by decide +kernel
theorem dX5_digest_6 : decode cX5_digest 6 = .ok (.ldc2_w 229, 3) := by decide +kernel
theorem dX5_digest_9 : decode cX5_digest 9 = .ok (.putfield 221, 3) := by decide +kernel
theorem dX5_digest_12 : decode cX5_digest 12 = .ok (.iconst 0, 1) := by decide +kernel
theorem dX5_digest_13 : decode cX5_digest 13 = .ok (.istore_n 1, 1) := by decide +kernel
theorem dX5_digest_14 : decode cX5_digest 14 = .ok (.iload_n 1, 1) := by decide +kernel
theorem dX5_digest_15 : decode cX5_digest 15 = .ok (.bipush 9, 2) := by decide +kernel
theorem dX5_digest_17 : decode cX5_digest 17 = .ok (.if_icmp .ge 19, 3) := by decide +kernel
theorem dX5_digest_20 : decode cX5_digest 20 = .ok (.aload_n 0, 1) := by decide +kernel
theorem dX5_digest_21 : decode cX5_digest 21 = .ok (.aload_n 0, 1) := by decide +kernel
theorem dX5_digest_22 : decode cX5_digest 22 = .ok (.iload_n 1, 1) := by decide +kernel
theorem dX5_digest_23 : decode cX5_digest 23 = .ok (.invokevirtual 200, 3) := by decide +kernel
theorem dX5_digest_26 : decode cX5_digest 26 = .ok (.i2l, 1) := by decide +kernel
theorem dX5_digest_27 : decode cX5_digest 27 = .ok (.invokevirtual 225, 3) := by decide +kernel
theorem dX5_digest_30 : decode cX5_digest 30 = .ok (.iinc 1 1, 3) := by decide +kernel
theorem dX5_digest_33 : decode cX5_digest 33 = .ok (.goto (-19), 3) := by decide +kernel
theorem dX5_digest_36 : decode cX5_digest 36 = .ok (.iconst 0, 1) := by decide +kernel
theorem dX5_digest_37 : decode cX5_digest 37 = .ok (.istore_n 1, 1) := by decide +kernel
theorem dX5_digest_38 : decode cX5_digest 38 = .ok (.iload_n 1, 1) := by decide +kernel
theorem dX5_digest_39 : decode cX5_digest 39 = .ok (.iconst 3, 1) := by decide +kernel
theorem dX5_digest_40 : decode cX5_digest 40 = .ok (.if_icmp .ge 20, 3) := by decide +kernel
theorem dX5_digest_43 : decode cX5_digest 43 = .ok (.aload_n 0, 1) := by decide +kernel
theorem dX5_digest_44 : decode cX5_digest 44 = .ok (.aload_n 0, 1) := by decide +kernel
theorem dX5_digest_45 : decode cX5_digest 45 = .ok (.getfield 7, 3) := by decide +kernel
theorem dX5_digest_48 : decode cX5_digest 48 = .ok (.iload_n 1, 1) := by decide +kernel
theorem dX5_digest_49 : decode cX5_digest 49 = .ok (.iaload, 1) := by decide +kernel
theorem dX5_digest_50 : decode cX5_digest 50 = .ok (.i2l, 1) := by decide +kernel
theorem dX5_digest_51 : decode cX5_digest 51 = .ok (.invokevirtual 225, 3) := by decide +kernel
theorem dX5_digest_54 : decode cX5_digest 54 = .ok (.iinc 1 1, 3) := by decide +kernel
theorem dX5_digest_57 : decode cX5_digest 57 = .ok (.goto (-19), 3) := by decide +kernel
theorem dX5_digest_60 : decode cX5_digest 60 = .ok (.iconst 0, 1) := by decide +kernel
theorem dX5_digest_61 : decode cX5_digest 61 = .ok (.istore_n 1, 1) := by decide +kernel
theorem dX5_digest_62 : decode cX5_digest 62 = .ok (.iload_n 1, 1) := by decide +kernel
theorem dX5_digest_63 : decode cX5_digest 63 = .ok (.aload_n 0, 1) := by decide +kernel
theorem dX5_digest_64 : decode cX5_digest 64 = .ok (.getfield 7, 3) := by decide +kernel
theorem dX5_digest_67 : decode cX5_digest 67 = .ok (.iconst 3, 1) := by decide +kernel
theorem dX5_digest_68 : decode cX5_digest 68 = .ok (.iaload, 1) := by decide +kernel
theorem dX5_digest_69 : decode cX5_digest 69 = .ok (.if_icmp .ge 14, 3) := by decide +kernel
theorem dX5_digest_72 : decode cX5_digest 72 = .ok (.aload_n 0, 1) := by decide +kernel
theorem dX5_digest_73 : decode cX5_digest 73 = .ok (.iload_n 1, 1) := by decide +kernel
theorem dX5_digest_74 : decode cX5_digest 74 = .ok (.invokevirtual 231, 3) := by decide +kernel
theorem dX5_digest_77 : decode cX5_digest 77 = .ok (.iinc 1 1, 3) := by decide +kernel
theorem dX5_digest_80 : decode cX5_digest 80 = .ok (.goto (-18), 3) := by decide +kernel
theorem dX5_digest_83 : decode cX5_digest 83 = .ok (.iconst 0, 1) := by decide +kernel
theorem dX5_digest_84 : decode cX5_digest 84 = .ok (.istore_n 1, 1) := by decide +kernel
theorem dX5_digest_85 : decode cX5_digest 85 = .ok (.iload_n 1, 1) := by decide +kernel
theorem dX5_digest_86 : decode cX5_digest 86 = .ok (.iconst 4, 1) := by decide +kernel
theorem dX5_digest_87 : decode cX5_digest 87 = .ok (.aload_n 0, 1) := by decide +kernel
theorem dX5_digest_88 : decode cX5_digest 88 = .ok (.getfield 7, 3) := by decide +kernel
theorem dX5_digest_91 : decode cX5_digest 91 = .ok (.iconst 4, 1) := by decide +kernel
theorem dX5_digest_92 : decode cX5_digest 92 = .ok (.iaload, 1) := by decide +kernel
theorem dX5_digest_93 : decode cX5_digest 93 = .ok (.imul, 1) := by decide +kernel
theorem dX5_digest_94 : decode cX5_digest 94 = .ok (.if_icmp .ge 24, 3) := by decide +kernel
theorem dX5_digest_97 : decode cX5_digest 97 = .ok (.aload_n 0, 1) := by decide +kernel
theorem dX5_digest_98 : decode cX5_digest 98 = .ok (.aload_n 0, 1) := by decide +kernel
theorem dX5_digest_99 : decode cX5_digest 99 = .ok (.iload_n 1, 1) := by decide +kernel
theorem dX5_digest_100 : decode cX5_digest 100 = .ok (.iconst 4, 1) := by decide +kernel
theorem dX5_digest_101 : decode cX5_digest 101 = .ok (.idiv, 1) := by decide +kernel
theorem dX5_digest_102 : decode cX5_digest 102 = .ok (.iload_n 1, 1) := by decide +kernel
theorem dX5_digest_103 : decode cX5_digest 103 = .ok (.iconst 4, 1) := by decide +kernel
theorem dX5_digest_104 : decode cX5_digest 104 = .ok (.irem, 1) := by decide +kernel
theorem dX5_digest_105 : decode cX5_digest 105 = .ok (.invokevirtual 181, 3) := by decide +kernel
theorem dX5_digest_108 : decode cX5_digest 108 = .ok (.i2l, 1) := by decide +kernel
theorem dX5_digest_109 : decode cX5_digest 109 = .ok (.invokevirtual 225, 3) := by decide +kernel
theorem dX5_digest_112 : decode cX5_digest 112 = .ok (.iinc 1 1, 3) := by decide +kernel
theorem dX5_digest_115 : decode cX5_digest 115 = .ok (.goto (-30), 3) := by decide +kernel
theorem dX5_digest_118 : decode cX5_digest 118 = .ok (.iconst 0, 1) := by decide +kernel
theorem dX5_digest_119 : decode cX5_digest 119 = .ok (.istore_n 1, 1) := by decide +kernel
theorem dX5_digest_120 : decode cX5_digest 120 = .ok (.iload_n 1, 1) := by decide +kernel
theorem dX5_digest_121 : decode cX5_digest 121 = .ok (.iconst 3, 1) := by decide +kernel
theorem dX5_digest_122 : decode cX5_digest 122 = .ok (.if_icmp .ge 19, 3) := by decide +kernel
theorem dX5_digest_125 : decode cX5_digest 125 = .ok (.aload_n 0, 1) := by decide +kernel
theorem dX5_digest_126 : decode cX5_digest 126 = .ok (.aload_n 0, 1) := by decide +kernel
theorem dX5_digest_127 : decode cX5_digest 127 = .ok (.iload_n 1, 1) := by decide +kernel
theorem dX5_digest_128 : decode cX5_digest 128 = .ok (.invokevirtual 184, 3) := by decide +kernel
theorem dX5_digest_131 : decode cX5_digest 131 = .ok (.i2l, 1) := by decide +kernel
theorem dX5_digest_132 : decode cX5_digest 132 = .ok (.invokevirtual 225, 3) := by decide +kernel
theorem dX5_digest_135 : decode cX5_digest 135 = .ok (.iinc 1 1, 3) := by decide +kernel
theorem dX5_digest_138 : decode cX5_digest 138 = .ok (.goto (-18), 3) := by decide +kernel
theorem dX5_digest_141 : decode cX5_digest 141 = .ok (.aload_n 0, 1) := by decide +kernel
theorem dX5_digest_142 : decode cX5_digest 142 = .ok (.aload_n 0, 1) := by decide +kernel
theorem dX5_digest_143 : decode cX5_digest 143 = .ok (.invokevirtual 212, 3) := by decide +kernel
theorem dX5_digest_146 : decode cX5_digest 146 = .ok (.i2l, 1) := by decide +kernel
theorem dX5_digest_147 : decode cX5_digest 147 = .ok (.invokevirtual 225, 3) := by decide +kernel
theorem dX5_digest_150 : decode cX5_digest 150 = .ok (.aload_n 0, 1) := by decide +kernel
theorem dX5_digest_151 : decode cX5_digest 151 = .ok (.aload_n 0, 1) := by decide +kernel
theorem dX5_digest_152 : decode cX5_digest 152 = .ok (.invokevirtual 215, 3) := by decide +kernel
theorem dX5_digest_155 : decode cX5_digest 155 = .ok (.invokestatic 235, 3) := by decide +kernel
theorem dX5_digest_158 : decode cX5_digest 158 = .ok (.invokevirtual 225, 3) := by decide +kernel
theorem dX5_digest_161 : decode cX5_digest 161 = .ok (.aload_n 0, 1) := by decide +kernel
theorem dX5_digest_162 : decode cX5_digest 162 = .ok (.aload_n 0, 1) := by decide +kernel
theorem dX5_digest_163 : decode cX5_digest 163 = .ok (.getfield 131, 3) := by decide +kernel
theorem dX5_digest_166 : decode cX5_digest 166 = .ok (.i2l, 1) := by decide +kernel
theorem dX5_digest_167 : decode cX5_digest 167 = .ok (.invokevirtual 225, 3) := by decide +kernel
theorem dX5_digest_170 : decode cX5_digest 170 = .ok (.iconst 0, 1) := by decide +kernel
theorem dX5_digest_171 : decode cX5_digest 171 = .ok (.istore_n 1, 1) := by decide +kernel
theorem dX5_digest_172 : decode cX5_digest 172 = .ok (.iload_n 1, 1) := by decide +kernel
theorem dX5_digest_173 : decode cX5_digest 173 = .ok (.aload_n 0, 1) := by decide +kernel
theorem dX5_digest_174 : decode cX5_digest 174 = .ok (.getfield 131, 3) := by decide +kernel
theorem dX5_digest_177 : decode cX5_digest 177 = .ok (.if_icmp .ge 20, 3) := by decide +kernel
theorem dX5_digest_180 : decode cX5_digest 180 = .ok (.aload_n 0, 1) := by decide +kernel
theorem dX5_digest_181 : decode cX5_digest 181 = .ok (.aload_n 0, 1) := by decide +kernel
theorem dX5_digest_182 : decode cX5_digest 182 = .ok (.getfield 16, 3) := by decide +kernel
theorem dX5_digest_185 : decode cX5_digest 185 = .ok (.iload_n 1, 1) := by decide +kernel
theorem dX5_digest_186 : decode cX5_digest 186 = .ok (.iaload, 1) := by decide +kernel
theorem dX5_digest_187 : decode cX5_digest 187 = .ok (.i2l, 1) := by decide +kernel
theorem dX5_digest_188 : decode cX5_digest 188 = .ok (.invokevirtual 225, 3) := by decide +kernel
theorem dX5_digest_191 : decode cX5_digest 191 = .ok (.iinc 1 1, 3) := by decide +kernel
theorem dX5_digest_194 : decode cX5_digest 194 = .ok (.goto (-22), 3) := by decide +kernel
theorem dX5_digest_197 : decode cX5_digest 197 = .ok (.aload_n 0, 1) := by decide +kernel
theorem dX5_digest_198 : decode cX5_digest 198 = .ok (.getfield 221, 3) := by decide +kernel
theorem dX5_digest_201 : decode cX5_digest 201 = .ok (.lreturn, 1) := by decide +kernel
theorem dJxe99ae_isNaN_b9ae7_0 : decode cJxe99ae_isNaN_b9ae7 0 = .ok (.dload_n 0, 1) := by decide +kernel
theorem dJxe99ae_isNaN_b9ae7_1 : decode cJxe99ae_isNaN_b9ae7 1 = .ok (.dload_n 0, 1) := by decide +kernel
theorem dJxe99ae_isNaN_b9ae7_2 : decode cJxe99ae_isNaN_b9ae7 2 = .ok (.dcmp .l, 1) := by decide +kernel
theorem dJxe99ae_isNaN_b9ae7_3 : decode cJxe99ae_isNaN_b9ae7 3 = .ok (.ifCond .eq 7, 3) := by decide +kernel
theorem dJxe99ae_isNaN_b9ae7_6 : decode cJxe99ae_isNaN_b9ae7 6 = .ok (.iconst 1, 1) := by decide +kernel
theorem dJxe99ae_isNaN_b9ae7_7 : decode cJxe99ae_isNaN_b9ae7 7 = .ok (.goto 4, 3) := by decide +kernel
theorem dJxe99ae_isNaN_b9ae7_10 : decode cJxe99ae_isNaN_b9ae7 10 = .ok (.iconst 0, 1) := by decide +kernel
theorem dJxe99ae_isNaN_b9ae7_11 : decode cJxe99ae_isNaN_b9ae7 11 = .ok (.ireturn, 1) := by decide +kernel
set_option maxRecDepth 20000 in
theorem ggJxe99ae_doubleToLongBits_ccdee_Jxe99ae_isNaN_b9ae7 : GoodIn wsJxe99ae_doubleToLongBits_ccdee wsJxe99ae_isNaN_b9ae7 := goodIn_r _ [9] (by decide +kernel) (by decide +kernel)
set_option maxRecDepth 20000 in
theorem gJxe99ae_doubleToLongBits_ccdee_Jxe99ae_isNaN_b9ae7 : GoodIn wsJxe99ae_doubleToLongBits_ccdee (va_wsS RJxe99ae 122 yJxe99ae_isNaN_b9ae7 wsJxe99ae_isNaN_b9ae7) := goodIn_app (goodIn_of _ (by decide +kernel)) ggJxe99ae_doubleToLongBits_ccdee_Jxe99ae_isNaN_b9ae7
theorem dJxe99ae_doubleToLongBits_ccdee_0 : decode cJxe99ae_doubleToLongBits_ccdee 0 = .ok (.dload_n 0, 1) := by decide +kernel
theorem dJxe99ae_doubleToLongBits_ccdee_1 : decode cJxe99ae_doubleToLongBits_ccdee 1 = .ok (.invokestatic 122, 3) := by decide +kernel
theorem dJxe99ae_doubleToLongBits_ccdee_4 : decode cJxe99ae_doubleToLongBits_ccdee 4 = .ok (.ifCond .ne 8, 3) := by decide +kernel
theorem dJxe99ae_doubleToLongBits_ccdee_7 : decode cJxe99ae_doubleToLongBits_ccdee 7 = .ok (.dload_n 0, 1) := by decide +kernel
theorem dJxe99ae_doubleToLongBits_ccdee_8 : decode cJxe99ae_doubleToLongBits_ccdee 8 = .ok (.invokestatic 134, 3) := by decide +kernel
theorem dJxe99ae_doubleToLongBits_ccdee_11 : decode cJxe99ae_doubleToLongBits_ccdee 11 = .ok (.lreturn, 1) := by decide +kernel
theorem dJxe99ae_doubleToLongBits_ccdee_12 : decode cJxe99ae_doubleToLongBits_ccdee 12 = .ok (.ldc2_w 137, 3) := by decide +kernel
theorem dJxe99ae_doubleToLongBits_ccdee_15 : decode cJxe99ae_doubleToLongBits_ccdee 15 = .ok (.lreturn, 1) := by decide +kernel
theorem dJ6_bitCount_0f7a4_0 : decode cJ6_bitCount_0f7a4 0 = .ok (.iload_n 0, 1) := by decide +kernel
theorem dJ6_bitCount_0f7a4_1 : decode cJ6_bitCount_0f7a4 1 = .ok (.iload_n 0, 1) := by decide +kernel
theorem dJ6_bitCount_0f7a4_2 : decode cJ6_bitCount_0f7a4 2 = .ok (.iconst 1, 1) := by decide +kernel
theorem dJ6_bitCount_0f7a4_3 : decode cJ6_bitCount_0f7a4 3 = .ok (.iushr, 1) := by decide +kernel
theorem dJ6_bitCount_0f7a4_4 : decode cJ6_bitCount_0f7a4 4 = .ok (.ldc_w 265, 3) := by decide +kernel
theorem dJ6_bitCount_0f7a4_7 : decode cJ6_bitCount_0f7a4 7 = .ok (.iand, 1) := by decide +kernel
theorem dJ6_bitCount_0f7a4_8 : decode cJ6_bitCount_0f7a4 8 = .ok (.isub, 1) := by decide +kernel
theorem dJ6_bitCount_0f7a4_9 : decode cJ6_bitCount_0f7a4 9 = .ok (.istore_n 0, 1) := by decide +kernel
theorem dJ6_bitCount_0f7a4_10 : decode cJ6_bitCount_0f7a4 10 = .ok (.iload_n 0, 1) := by decide +kernel
theorem dJ6_bitCount_0f7a4_11 : decode cJ6_bitCount_0f7a4 11 = .ok (.ldc_w 266, 3) := by decide +kernel
theorem dJ6_bitCount_0f7a4_14 : decode cJ6_bitCount_0f7a4 14 = .ok (.iand, 1) := by decide +kernel
theorem dJ6_bitCount_0f7a4_15 : decode cJ6_bitCount_0f7a4 15 = .ok (.iload_n 0, 1) := by decide +kernel
theorem dJ6_bitCount_0f7a4_16 : decode cJ6_bitCount_0f7a4 16 = .ok (.iconst 2, 1) := by decide +kernel
theorem dJ6_bitCount_0f7a4_17 : decode cJ6_bitCount_0f7a4 17 = .ok (.iushr, 1) := by decide +kernel
theorem dJ6_bitCount_0f7a4_18 : decode cJ6_bitCount_0f7a4 18 = .ok (.ldc_w 266, 3) := by decide +kernel
theorem dJ6_bitCount_0f7a4_21 : decode cJ6_bitCount_0f7a4 21 = .ok (.iand, 1) := by decide +kernel
theorem dJ6_bitCount_0f7a4_22 : decode cJ6_bitCount_0f7a4 22 = .ok (.iadd, 1) := by decide +kernel
theorem dJ6_bitCount_0f7a4_23 : decode cJ6_bitCount_0f7a4 23 = .ok (.istore_n 0, 1) := by decide +kernel
theorem dJ6_bitCount_0f7a4_24 : decode cJ6_bitCount_0f7a4 24 = .ok (.iload_n 0, 1) := by decide +kernel
theorem dJ6_bitCount_0f7a4_25 : decode cJ6_bitCount_0f7a4 25 = .ok (.iload_n 0, 1) := by decide +kernel
theorem dJ6_bitCount_0f7a4_26 : decode cJ6_bitCount_0f7a4 26 = .ok (.iconst 4, 1) := by decide +kernel
theorem dJ6_bitCount_0f7a4_27 : decode cJ6_bitCount_0f7a4 27 = .ok (.iushr, 1) := by decide +kernel
theorem dJ6_bitCount_0f7a4_28 : decode cJ6_bitCount_0f7a4 28 = .ok (.iadd, 1) := by decide +kernel
theorem dJ6_bitCount_0f7a4_29 : decode cJ6_bitCount_0f7a4 29 = .ok (.ldc_w 267, 3) := by decide +kernel
theorem dJ6_bitCount_0f7a4_32 : decode cJ6_bitCount_0f7a4 32 = .ok (.iand, 1) := by decide +kernel
theorem dJ6_bitCount_0f7a4_33 : decode cJ6_bitCount_0f7a4 33 = .ok (.istore_n 0, 1) := by decide +kernel
theorem dJ6_bitCount_0f7a4_34 : decode cJ6_bitCount_0f7a4 34 = .ok (.iload_n 0, 1) := by decide +kernel
theorem dJ6_bitCount_0f7a4_35 : decode cJ6_bitCount_0f7a4 35 = .ok (.iload_n 0, 1) := by decide +kernel
theorem dJ6_bitCount_0f7a4_36 : decode cJ6_bitCount_0f7a4 36 = .ok (.bipush 8, 2) := by decide +kernel
theorem dJ6_bitCount_0f7a4_38 : decode cJ6_bitCount_0f7a4 38 = .ok (.iushr, 1) := by decide +kernel
theorem dJ6_bitCount_0f7a4_39 : decode cJ6_bitCount_0f7a4 39 = .ok (.iadd, 1) := by decide +kernel
theorem dJ6_bitCount_0f7a4_40 : decode cJ6_bitCount_0f7a4 40 = .ok (.istore_n 0, 1) := by decide +kernel
theorem dJ6_bitCount_0f7a4_41 : decode cJ6_bitCount_0f7a4 41 = .ok (.iload_n 0, 1) := by decide +kernel
theorem dJ6_bitCount_0f7a4_42 : decode cJ6_bitCount_0f7a4 42 = .ok (.iload_n 0, 1) := by decide +kernel
theorem dJ6_bitCount_0f7a4_43 : decode cJ6_bitCount_0f7a4 43 = .ok (.bipush 16, 2) := by decide +kernel
theorem dJ6_bitCount_0f7a4_45 : decode cJ6_bitCount_0f7a4 45 = .ok (.iushr, 1) := by decide +kernel
theorem dJ6_bitCount_0f7a4_46 : decode cJ6_bitCount_0f7a4 46 = .ok (.iadd, 1) := by decide +kernel
theorem dJ6_bitCount_0f7a4_47 : decode cJ6_bitCount_0f7a4 47 = .ok (.istore_n 0, 1) := by decide +kernel
theorem dJ6_bitCount_0f7a4_48 : decode cJ6_bitCount_0f7a4 48 = .ok (.iload_n 0, 1) := by decide +kernel
theorem dJ6_bitCount_0f7a4_49 : decode cJ6_bitCount_0f7a4 49 = .ok (.bipush 63, 2) := by decide +kernel
theorem dJ6_bitCount_0f7a4_51 : decode cJ6_bitCount_0f7a4 51 = .ok (.iand, 1) := by decide +kernel
theorem dJ6_bitCount_0f7a4_52 : decode cJ6_bitCount_0f7a4 52 = .ok (.ireturn, 1) := by decide +kernel
theorem dJ9_floorDiv_7cf53_0 : decode cJ9_floorDiv_7cf53 0 = .ok (.iload_n 0, 1) := by decide +kernel
theorem dJ9_floorDiv_7cf53_1 : decode cJ9_floorDiv_7cf53 1 = .ok (.iload_n 1, 1) := by decide +kernel
theorem dJ9_floorDiv_7cf53_2 : decode cJ9_floorDiv_7cf53 2 = .ok (.idiv, 1) := by decide +kernel
theorem dJ9_floorDiv_7cf53_3 : decode cJ9_floorDiv_7cf53 3 = .ok (.istore_n 2, 1) := by decide +kernel
theorem dJ9_floorDiv_7cf53_4 : decode cJ9_floorDiv_7cf53 4 = .ok (.iload_n 0, 1) := by decide +kernel
theorem dJ9_floorDiv_7cf53_5 : decode cJ9_floorDiv_7cf53 5 = .ok (.iload_n 1, 1) := by decide +kernel
theorem dJ9_floorDiv_7cf53_6 : decode cJ9_floorDiv_7cf53 6 = .ok (.ixor, 1) := by decide +kernel
theorem dJ9_floorDiv_7cf53_7 : decode cJ9_floorDiv_7cf53 7 = .ok (.ifCond .ge 14, 3) := by decide +kernel
theorem dJ9_floorDiv_7cf53_10 : decode cJ9_floorDiv_7cf53 10 = .ok (.iload_n 2, 1) := by decide +kernel
theorem dJ9_floorDiv_7cf53_11 : decode cJ9_floorDiv_7cf53 11 = .ok (.iload_n 1, 1) := by decide +kernel
theorem dJ9_floorDiv_7cf53_12 : decode cJ9_floorDiv_7cf53 12 = .ok (.imul, 1) := by decide +kernel
theorem dJ9_floorDiv_7cf53_13 : decode cJ9_floorDiv_7cf53 13 = .ok (.iload_n 0, 1) := by decide +kernel
theorem dJ9_floorDiv_7cf53_14 : decode cJ9_floorDiv_7cf53 14 = .ok (.if_icmp .eq 7, 3) := by decide +kernel
theorem dJ9_floorDiv_7cf53_17 : decode cJ9_floorDiv_7cf53 17 = .ok (.iload_n 2, 1) := by decide +kernel
theorem dJ9_floorDiv_7cf53_18 : decode cJ9_floorDiv_7cf53 18 = .ok (.iconst 1, 1) := by decide +kernel
theorem dJ9_floorDiv_7cf53_19 : decode cJ9_floorDiv_7cf53 19 = .ok (.isub, 1) := by decide +kernel
theorem dJ9_floorDiv_7cf53_20 : decode cJ9_floorDiv_7cf53 20 = .ok (.ireturn, 1) := by decide +kernel
theorem dJ9_floorDiv_7cf53_21 : decode cJ9_floorDiv_7cf53 21 = .ok (.iload_n 2, 1) := by decide +kernel
theorem dJ9_floorDiv_7cf53_22 : decode cJ9_floorDiv_7cf53 22 = .ok (.ireturn, 1) := by decide +kernel
theorem dJ9_abs_0f7a4_0 : decode cJ9_abs_0f7a4 0 = .ok (.iload_n 0, 1) := by decide +kernel
theorem dJ9_abs_0f7a4_1 : decode cJ9_abs_0f7a4 1 = .ok (.ifCond .ge 8, 3) := by decide +kernel
theorem dJ9_abs_0f7a4_4 : decode cJ9_abs_0f7a4 4 = .ok (.iload_n 0, 1) := by decide +kernel
theorem dJ9_abs_0f7a4_5 : decode cJ9_abs_0f7a4 5 = .ok (.ineg, 1) := by decide +kernel
theorem dJ9_abs_0f7a4_6 : decode cJ9_abs_0f7a4 6 = .ok (.goto 4, 3) := by decide +kernel
theorem dJ9_abs_0f7a4_9 : decode cJ9_abs_0f7a4 9 = .ok (.iload_n 0, 1) := by decide +kernel
theorem dJ9_abs_0f7a4_10 : decode cJ9_abs_0f7a4 10 = .ok (.ireturn, 1) := by decide +kernel
theorem dJ9_max_7cf53_0 : decode cJ9_max_7cf53 0 = .ok (.iload_n 0, 1) := by decide +kernel
theorem dJ9_max_7cf53_1 : decode cJ9_max_7cf53 1 = .ok (.iload_n 1, 1) := by decide +kernel
theorem dJ9_max_7cf53_2 : decode cJ9_max_7cf53 2 = .ok (.if_icmp .lt 7, 3) := by decide +kernel
theorem dJ9_max_7cf53_5 : decode cJ9_max_7cf53 5 = .ok (.iload_n 0, 1) := by decide +kernel
theorem dJ9_max_7cf53_6 : decode cJ9_max_7cf53 6 = .ok (.goto 4, 3) := by decide +kernel
theorem dJ9_max_7cf53_9 : decode cJ9_max_7cf53 9 = .ok (.iload_n 1, 1) := by decide +kernel
theorem dJ9_max_7cf53_10 : decode cJ9_max_7cf53 10 = .ok (.ireturn, 1) := by decide +kernel
