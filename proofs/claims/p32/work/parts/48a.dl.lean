set_option maxRecDepth 20000 in
theorem ggL_builds_L_at : GoodIn wsL_builds wsL_at := goodIn_r _ [4] (by decide +kernel) (by decide +kernel)
set_option maxRecDepth 20000 in
theorem gL_builds_L_at : GoodIn wsL_builds (va_wsS RL 18 yL_at wsL_at) := goodIn_app (goodIn_of _ (by decide +kernel)) ggL_builds_L_at
set_option maxRecDepth 20000 in
theorem ggL_builds_X4_addRow : GoodIn wsL_builds wsX4_addRow := goodIn_ca (goodIn_ca (goodIn_r _ [9, 10, 11, 12, 13, 14, 15, 16, 8, 17, 18, 19, 20, 21, 22, 23, 24, 25, 26, 27, 28, 29, 30, 31, 32, 33, 34, 35, 36, 37, 38, 39, 40, 41, 42, 43, 44, 45, 46, 47, 48, 49, 50, 51, 52, 53, 54, 55, 56, 57, 58, 59, 60, 61, 62, 63, 64, 65, 66, 67, 68, 69, 70, 71, 130, 131, 132, 133, 134, 135, 136, 137, 138, 139, 140, 141, 142, 143, 144, 145, 146, 147, 148, 149, 150, 151] (by decide +kernel) (by decide +kernel)) (goodIn_sub (fun _ h => List.mem_cons_of_mem _ (List.mem_append_left _ (List.mem_append_left _ (List.mem_append_right _ h)))) (by decide +kernel))) (goodIn_sub (fun _ h => List.mem_cons_of_mem _ (List.mem_append_left _ (List.mem_append_right _ h))) (by decide +kernel))
set_option maxRecDepth 20000 in
theorem gL_builds_X4_addRow : GoodIn wsL_builds (wsV RL 22 RX4 yX4_addRow wsX4_addRow) := goodIn_app (goodIn_of _ (by decide +kernel)) ggL_builds_X4_addRow
set_option maxRecDepth 20000 in
theorem ggL_builds_X4_removeRow : GoodIn wsL_builds wsX4_removeRow := goodIn_ca (goodIn_r _ [75, 14, 76, 77, 78, 8, 79, 80, 81, 82, 25, 26, 27, 28, 29, 30, 31, 32, 33, 34, 35, 36, 37, 38, 39, 40, 41, 42, 43, 44, 21, 45, 23, 24, 46, 47, 48, 49, 50, 51, 52, 53, 54, 55, 56, 57, 58, 59, 60, 61, 62, 63, 83, 84, 85, 86, 68, 69, 70, 71, 87, 88, 89, 90, 130, 131, 132, 133, 134, 135, 136, 137, 138, 139, 140, 141, 142, 143, 144, 145, 146, 147, 148, 149, 150, 151] (by decide +kernel) (by decide +kernel)) (goodIn_sub (fun _ h => List.mem_cons_of_mem _ (List.mem_append_right _ h)) (by decide +kernel))
set_option maxRecDepth 20000 in
theorem gL_builds_X4_removeRow : GoodIn wsL_builds (wsV RL 28 RX4 yX4_removeRow wsX4_removeRow) := goodIn_app (goodIn_of _ (by decide +kernel)) ggL_builds_X4_removeRow
set_option maxRecDepth 20000 in
theorem ggL_builds_L_all : GoodIn wsL_builds wsL_all := goodIn_r _ [93] (by decide +kernel) (by decide +kernel)
set_option maxRecDepth 20000 in
theorem gL_builds_L_all : GoodIn wsL_builds (va_wsS RL 32 yL_all wsL_all) := goodIn_app (goodIn_of _ (by decide +kernel)) ggL_builds_L_all
set_option maxRecDepth 20000 in
theorem ggL_builds_X4_removeColumn : GoodIn wsL_builds wsX4_removeColumn := goodIn_ca (goodIn_r _ [97, 14, 98, 99, 100, 101, 8, 102, 80, 81, 25, 26, 27, 28, 29, 30, 31, 32, 33, 34, 35, 36, 37, 38, 39, 40, 41, 42, 43, 44, 21, 45, 23, 24, 46, 47, 48, 49, 50, 51, 52, 53, 54, 55, 56, 57, 58, 59, 60, 61, 62, 63, 103, 104, 105, 106, 130, 131, 132, 133, 134, 135, 136, 137, 138, 139, 140, 141, 142, 143, 144, 145, 146, 147, 148, 149, 150, 151] (by decide +kernel) (by decide +kernel)) (goodIn_sub (fun _ h => List.mem_cons_of_mem _ (List.mem_append_right _ h)) (by decide +kernel))
set_option maxRecDepth 20000 in
theorem gL_builds_X4_removeColumn : GoodIn wsL_builds (wsV RL 36 RX4 yX4_removeColumn wsX4_removeColumn) := goodIn_app (goodIn_of _ (by decide +kernel)) ggL_builds_X4_removeColumn
set_option maxRecDepth 20000 in
theorem ggL_builds_X4_addColumn : GoodIn wsL_builds wsX4_addColumn := goodIn_ca (goodIn_ca (goodIn_r _ [110, 10, 11, 12, 13, 14, 98, 25, 26, 27, 8, 28, 29, 30, 31, 32, 33, 34, 35, 36, 37, 38, 39, 40, 41, 42, 43, 44, 21, 45, 23, 24, 46, 47, 48, 49, 50, 51, 52, 53, 54, 55, 56, 57, 58, 59, 60, 61, 62, 63, 111, 112, 113, 114, 130, 131, 132, 133, 134, 135, 136, 137, 138, 139, 140, 141, 142, 143, 144, 145, 146, 147, 148, 149, 150, 151] (by decide +kernel) (by decide +kernel)) (goodIn_sub (fun _ h => List.mem_cons_of_mem _ (List.mem_append_left _ (List.mem_append_left _ (List.mem_append_right _ h)))) (by decide +kernel))) (goodIn_sub (fun _ h => List.mem_cons_of_mem _ (List.mem_append_left _ (List.mem_append_right _ h))) (by decide +kernel))
set_option maxRecDepth 20000 in
theorem gL_builds_X4_addColumn : GoodIn wsL_builds (wsV RL 39 RX4 yX4_addColumn wsX4_addColumn) := goodIn_app (goodIn_of _ (by decide +kernel)) ggL_builds_X4_addColumn
set_option maxRecDepth 20000 in
theorem ggL_builds_X4_lift : GoodIn wsL_builds wsX4_lift := goodIn_ca (goodIn_ca (goodIn_r _ [118, 14, 119, 76, 77, 78, 8, 79, 80, 81, 82, 15, 16, 17, 10, 11, 25, 26, 27, 28, 29, 30, 31, 32, 33, 34, 35, 36, 37, 38, 39, 40, 41, 42, 43, 44, 21, 45, 23, 24, 46, 47, 48, 49, 50, 51, 52, 53, 54, 55, 56, 57, 58, 59, 60, 61, 62, 63, 130, 131, 132, 133, 134, 135, 136, 137, 138, 139, 140, 141, 142, 143, 144, 145, 146, 147, 148, 149, 150, 151] (by decide +kernel) (by decide +kernel)) (goodIn_sub (fun _ h => List.mem_cons_of_mem _ (List.mem_append_right _ h)) (by decide +kernel))) (goodIn_sub (fun _ h => List.mem_cons_of_mem _ (List.mem_append_left _ (List.mem_append_left _ (List.mem_append_right _ h)))) (by decide +kernel))
set_option maxRecDepth 20000 in
theorem gL_builds_X4_lift : GoodIn wsL_builds (wsV RL 42 RX4 yX4_lift wsX4_lift) := goodIn_app (goodIn_of _ (by decide +kernel)) ggL_builds_X4_lift
set_option maxRecDepth 20000 in
theorem ggL_builds_X4_set : GoodIn wsL_builds wsX4_set := goodIn_ca (goodIn_ca (goodIn_r _ [123, 10, 11, 124, 125, 14, 126, 127, 128, 8, 129, 80, 81, 25, 26, 27, 28, 29, 30, 31, 32, 33, 34, 35, 36, 37, 38, 39, 40, 41, 42, 43, 44, 21, 45, 23, 24, 46, 47, 48, 49, 50, 51, 52, 53, 54, 55, 56, 57, 58, 59, 60, 61, 62, 63, 130, 131, 132, 133, 134, 135, 136, 137, 138, 139, 140, 141, 142, 143, 144, 145, 146, 147, 148, 149, 150, 151] (by decide +kernel) (by decide +kernel)) (goodIn_sub (fun _ h => List.mem_cons_of_mem _ (List.mem_append_left _ (List.mem_append_left _ (List.mem_append_right _ h)))) (by decide +kernel))) (goodIn_sub (fun _ h => List.mem_cons_of_mem _ (List.mem_append_right _ h)) (by decide +kernel))
set_option maxRecDepth 20000 in
theorem gL_builds_X4_set : GoodIn wsL_builds (wsV RL 45 RX4 yX4_set wsX4_set) := goodIn_app (goodIn_of _ (by decide +kernel)) ggL_builds_X4_set
theorem dL_builds_0 : decode cL_builds 0 = .ok (.iload_n 1, 1) := by decide +kernel
theorem dL_builds_1 : decode cL_builds 1 = .ok (.bipush 8, 2) := by decide +kernel
theorem dL_builds_3 : decode cL_builds 3 = .ok (.invokestatic 18, 3) := by decide +kernel
theorem dL_builds_6 : decode cL_builds 6 = .ok (.istore 6, 2) := by decide +kernel
theorem dL_builds_8 : decode cL_builds 8 = .ok (.aload_n 3, 1) := by decide +kernel
theorem dL_builds_9 : decode cL_builds 9 = .ok (.iconst 0, 1) := by decide +kernel
theorem dL_builds_10 : decode cL_builds 10 = .ok (.iaload, 1) := by decide +kernel
theorem dL_builds_11 : decode cL_builds 11 = .ok (.ifCond .eq 17, 3) := by decide +kernel
theorem dL_builds_14 : decode cL_builds 14 = .ok (.iload 6, 2) := by decide +kernel
theorem dL_builds_16 : decode cL_builds 16 = .ok (.iconst 3, 1) := by decide +kernel
theorem dL_builds_17 : decode cL_builds 17 = .ok (.if_icmp .ge 227, 3) := by decide +kernel
theorem dL_builds_20 : decode cL_builds 20 = .ok (.aload_n 3, 1) := by decide +kernel
theorem dL_builds_21 : decode cL_builds 21 = .ok (.iconst 0, 1) := by decide +kernel
theorem dL_builds_22 : decode cL_builds 22 = .ok (.iaload, 1) := by decide +kernel
theorem dL_builds_23 : decode cL_builds 23 = .ok (.bipush 6, 2) := by decide +kernel
theorem dL_builds_25 : decode cL_builds 25 = .ok (.if_icmp .ge 219, 3) := by decide +kernel
theorem dL_builds_28 : decode cL_builds 28 = .ok (.iconst 1, 1) := by decide +kernel
theorem dL_builds_29 : decode cL_builds 29 = .ok (.iload_n 2, 1) := by decide +kernel
theorem dL_builds_30 : decode cL_builds 30 = .ok (.bipush 60, 2) := by decide +kernel
theorem dL_builds_32 : decode cL_builds 32 = .ok (.invokestatic 18, 3) := by decide +kernel
theorem dL_builds_35 : decode cL_builds 35 = .ok (.iadd, 1) := by decide +kernel
theorem dL_builds_36 : decode cL_builds 36 = .ok (.istore 7, 2) := by decide +kernel
theorem dL_builds_38 : decode cL_builds 38 = .ok (.iload_n 2, 1) := by decide +kernel
theorem dL_builds_39 : decode cL_builds 39 = .ok (.bipush 6, 2) := by decide +kernel
theorem dL_builds_41 : decode cL_builds 41 = .ok (.ishr, 1) := by decide +kernel
theorem dL_builds_42 : decode cL_builds 42 = .ok (.sipush 150, 3) := by decide +kernel
theorem dL_builds_45 : decode cL_builds 45 = .ok (.invokestatic 18, 3) := by decide +kernel
theorem dL_builds_48 : decode cL_builds 48 = .ok (.istore 8, 2) := by decide +kernel
theorem dL_builds_50 : decode cL_builds 50 = .ok (.iconst 1, 1) := by decide +kernel
theorem dL_builds_51 : decode cL_builds 51 = .ok (.iload_n 1, 1) := by decide +kernel
theorem dL_builds_52 : decode cL_builds 52 = .ok (.iconst 4, 1) := by decide +kernel
theorem dL_builds_53 : decode cL_builds 53 = .ok (.ishr, 1) := by decide +kernel
theorem dL_builds_54 : decode cL_builds 54 = .ok (.bipush 8, 2) := by decide +kernel
theorem dL_builds_56 : decode cL_builds 56 = .ok (.invokestatic 18, 3) := by decide +kernel
theorem dL_builds_59 : decode cL_builds 59 = .ok (.iadd, 1) := by decide +kernel
theorem dL_builds_60 : decode cL_builds 60 = .ok (.istore 9, 2) := by decide +kernel
theorem dL_builds_62 : decode cL_builds 62 = .ok (.aload_n 3, 1) := by decide +kernel
theorem dL_builds_63 : decode cL_builds 63 = .ok (.iconst 0, 1) := by decide +kernel
theorem dL_builds_64 : decode cL_builds 64 = .ok (.iaload, 1) := by decide +kernel
theorem dL_builds_65 : decode cL_builds 65 = .ok (.istore 10, 2) := by decide +kernel
theorem dL_builds_67 : decode cL_builds 67 = .ok (.iconst 0, 1) := by decide +kernel
theorem dL_builds_68 : decode cL_builds 68 = .ok (.istore 11, 2) := by decide +kernel
theorem dL_builds_70 : decode cL_builds 70 = .ok (.iload 11, 2) := by decide +kernel
theorem dL_builds_72 : decode cL_builds 72 = .ok (.aload_n 3, 1) := by decide +kernel
theorem dL_builds_73 : decode cL_builds 73 = .ok (.iconst 0, 1) := by decide +kernel
theorem dL_builds_74 : decode cL_builds 74 = .ok (.iaload, 1) := by decide +kernel
theorem dL_builds_75 : decode cL_builds 75 = .ok (.if_icmp .ge 23, 3) := by decide +kernel
theorem dL_builds_78 : decode cL_builds 78 = .ok (.aload 4, 2) := by decide +kernel
theorem dL_builds_80 : decode cL_builds 80 = .ok (.iconst 4, 1) := by decide +kernel
theorem dL_builds_81 : decode cL_builds 81 = .ok (.iload 11, 2) := by decide +kernel
theorem dL_builds_83 : decode cL_builds 83 = .ok (.imul, 1) := by decide +kernel
theorem dL_builds_84 : decode cL_builds 84 = .ok (.iaload, 1) := by decide +kernel
theorem dL_builds_85 : decode cL_builds 85 = .ok (.iload 7, 2) := by decide +kernel
theorem dL_builds_87 : decode cL_builds 87 = .ok (.if_icmp .ne 5, 3) := by decide +kernel
theorem dL_builds_90 : decode cL_builds 90 = .ok (.iconst 1, 1) := by decide +kernel
theorem dL_builds_91 : decode cL_builds 91 = .ok (.ireturn, 1) := by decide +kernel
theorem dL_builds_92 : decode cL_builds 92 = .ok (.iinc 11 1, 3) := by decide +kernel
theorem dL_builds_95 : decode cL_builds 95 = .ok (.goto (-25), 3) := by decide +kernel
theorem dL_builds_98 : decode cL_builds 98 = .ok (.iload 10, 2) := by decide +kernel
theorem dL_builds_100 : decode cL_builds 100 = .ok (.ifCond .le 60, 3) := by decide +kernel
theorem dL_builds_103 : decode cL_builds 103 = .ok (.aload 4, 2) := by decide +kernel
theorem dL_builds_105 : decode cL_builds 105 = .ok (.iconst 4, 1) := by decide +kernel
theorem dL_builds_106 : decode cL_builds 106 = .ok (.iload 10, 2) := by decide +kernel
theorem dL_builds_108 : decode cL_builds 108 = .ok (.imul, 1) := by decide +kernel
theorem dL_builds_109 : decode cL_builds 109 = .ok (.iconst 4, 1) := by decide +kernel
theorem dL_builds_110 : decode cL_builds 110 = .ok (.isub, 1) := by decide +kernel
theorem dL_builds_111 : decode cL_builds 111 = .ok (.iaload, 1) := by decide +kernel
theorem dL_builds_112 : decode cL_builds 112 = .ok (.iload 7, 2) := by decide +kernel
theorem dL_builds_114 : decode cL_builds 114 = .ok (.if_icmp .le 46, 3) := by decide +kernel
theorem dL_builds_117 : decode cL_builds 117 = .ok (.iconst 0, 1) := by decide +kernel
theorem dL_builds_118 : decode cL_builds 118 = .ok (.istore 11, 2) := by decide +kernel
theorem dL_builds_120 : decode cL_builds 120 = .ok (.iload 11, 2) := by decide +kernel
theorem dL_builds_122 : decode cL_builds 122 = .ok (.iconst 4, 1) := by decide +kernel
theorem dL_builds_123 : decode cL_builds 123 = .ok (.if_icmp .ge 31, 3) := by decide +kernel
theorem dL_builds_126 : decode cL_builds 126 = .ok (.aload 4, 2) := by decide +kernel
theorem dL_builds_128 : decode cL_builds 128 = .ok (.iconst 4, 1) := by decide +kernel
theorem dL_builds_129 : decode cL_builds 129 = .ok (.iload 10, 2) := by decide +kernel
theorem dL_builds_131 : decode cL_builds 131 = .ok (.imul, 1) := by decide +kernel
theorem dL_builds_132 : decode cL_builds 132 = .ok (.iload 11, 2) := by decide +kernel
theorem dL_builds_134 : decode cL_builds 134 = .ok (.iadd, 1) := by decide +kernel
theorem dL_builds_135 : decode cL_builds 135 = .ok (.aload 4, 2) := by decide +kernel
theorem dL_builds_137 : decode cL_builds 137 = .ok (.iconst 4, 1) := by decide +kernel
theorem dL_builds_138 : decode cL_builds 138 = .ok (.iload 10, 2) := by decide +kernel
theorem dL_builds_140 : decode cL_builds 140 = .ok (.imul, 1) := by decide +kernel
theorem dL_builds_141 : decode cL_builds 141 = .ok (.iload 11, 2) := by decide +kernel
theorem dL_builds_143 : decode cL_builds 143 = .ok (.iadd, 1) := by decide +kernel
theorem dL_builds_144 : decode cL_builds 144 = .ok (.iconst 4, 1) := by decide +kernel
theorem dL_builds_145 : decode cL_builds 145 = .ok (.isub, 1) := by decide +kernel
theorem dL_builds_146 : decode cL_builds 146 = .ok (.iaload, 1) := by decide +kernel
theorem dL_builds_147 : decode cL_builds 147 = .ok (.iastore, 1) := by decide +kernel
theorem dL_builds_148 : decode cL_builds 148 = .ok (.iinc 11 1, 3) := by decide +kernel
theorem dL_builds_151 : decode cL_builds 151 = .ok (.goto (-31), 3) := by decide +kernel
theorem dL_builds_154 : decode cL_builds 154 = .ok (.iinc 10 (-1), 3) := by decide +kernel
theorem dL_builds_157 : decode cL_builds 157 = .ok (.goto (-59), 3) := by decide +kernel
theorem dL_builds_160 : decode cL_builds 160 = .ok (.aload_n 3, 1) := by decide +kernel
theorem dL_builds_161 : decode cL_builds 161 = .ok (.iconst 0, 1) := by decide +kernel
theorem dL_builds_162 : decode cL_builds 162 = .ok (.dup2, 1) := by decide +kernel
theorem dL_builds_163 : decode cL_builds 163 = .ok (.iaload, 1) := by decide +kernel
theorem dL_builds_164 : decode cL_builds 164 = .ok (.iconst 1, 1) := by decide +kernel
theorem dL_builds_165 : decode cL_builds 165 = .ok (.iadd, 1) := by decide +kernel
theorem dL_builds_166 : decode cL_builds 166 = .ok (.iastore, 1) := by decide +kernel
theorem dL_builds_167 : decode cL_builds 167 = .ok (.aload 4, 2) := by decide +kernel
theorem dL_builds_169 : decode cL_builds 169 = .ok (.iconst 4, 1) := by decide +kernel
theorem dL_builds_170 : decode cL_builds 170 = .ok (.iload 10, 2) := by decide +kernel
theorem dL_builds_172 : decode cL_builds 172 = .ok (.imul, 1) := by decide +kernel
theorem dL_builds_173 : decode cL_builds 173 = .ok (.iload 7, 2) := by decide +kernel
theorem dL_builds_175 : decode cL_builds 175 = .ok (.iastore, 1) := by decide +kernel
theorem dL_builds_176 : decode cL_builds 176 = .ok (.aload 4, 2) := by decide +kernel
theorem dL_builds_178 : decode cL_builds 178 = .ok (.iconst 4, 1) := by decide +kernel
theorem dL_builds_179 : decode cL_builds 179 = .ok (.iload 10, 2) := by decide +kernel
theorem dL_builds_181 : decode cL_builds 181 = .ok (.imul, 1) := by decide +kernel
theorem dL_builds_182 : decode cL_builds 182 = .ok (.iconst 1, 1) := by decide +kernel
theorem dL_builds_183 : decode cL_builds 183 = .ok (.iadd, 1) := by decide +kernel
theorem dL_builds_184 : decode cL_builds 184 = .ok (.iload 8, 2) := by decide +kernel
theorem dL_builds_186 : decode cL_builds 186 = .ok (.iastore, 1) := by decide +kernel
theorem dL_builds_187 : decode cL_builds 187 = .ok (.aload 4, 2) := by decide +kernel
theorem dL_builds_189 : decode cL_builds 189 = .ok (.iconst 4, 1) := by decide +kernel
theorem dL_builds_190 : decode cL_builds 190 = .ok (.iload 10, 2) := by decide +kernel
theorem dL_builds_192 : decode cL_builds 192 = .ok (.imul, 1) := by decide +kernel
theorem dL_builds_193 : decode cL_builds 193 = .ok (.iconst 2, 1) := by decide +kernel
theorem dL_builds_194 : decode cL_builds 194 = .ok (.iadd, 1) := by decide +kernel
theorem dL_builds_195 : decode cL_builds 195 = .ok (.iload 9, 2) := by decide +kernel
theorem dL_builds_197 : decode cL_builds 197 = .ok (.iastore, 1) := by decide +kernel
theorem dL_builds_198 : decode cL_builds 198 = .ok (.aload 4, 2) := by decide +kernel
theorem dL_builds_200 : decode cL_builds 200 = .ok (.iconst 4, 1) := by decide +kernel
theorem dL_builds_201 : decode cL_builds 201 = .ok (.iload 10, 2) := by decide +kernel
theorem dL_builds_203 : decode cL_builds 203 = .ok (.imul, 1) := by decide +kernel
theorem dL_builds_204 : decode cL_builds 204 = .ok (.iconst 3, 1) := by decide +kernel
theorem dL_builds_205 : decode cL_builds 205 = .ok (.iadd, 1) := by decide +kernel
theorem dL_builds_206 : decode cL_builds 206 = .ok (.iconst 0, 1) := by decide +kernel
theorem dL_builds_207 : decode cL_builds 207 = .ok (.iastore, 1) := by decide +kernel
theorem dL_builds_208 : decode cL_builds 208 = .ok (.aload_n 3, 1) := by decide +kernel
theorem dL_builds_209 : decode cL_builds 209 = .ok (.iconst 2, 1) := by decide +kernel
theorem dL_builds_210 : decode cL_builds 210 = .ok (.iaload, 1) := by decide +kernel
theorem dL_builds_211 : decode cL_builds 211 = .ok (.bipush 6, 2) := by decide +kernel
theorem dL_builds_213 : decode cL_builds 213 = .ok (.if_icmp .ge 10, 3) := by decide +kernel
theorem dL_builds_216 : decode cL_builds 216 = .ok (.aload_n 3, 1) := by decide +kernel
theorem dL_builds_217 : decode cL_builds 217 = .ok (.iconst 2, 1) := by decide +kernel
theorem dL_builds_218 : decode cL_builds 218 = .ok (.dup2, 1) := by decide +kernel
theorem dL_builds_219 : decode cL_builds 219 = .ok (.iaload, 1) := by decide +kernel
theorem dL_builds_220 : decode cL_builds 220 = .ok (.iconst 1, 1) := by decide +kernel
theorem dL_builds_221 : decode cL_builds 221 = .ok (.iadd, 1) := by decide +kernel
theorem dL_builds_222 : decode cL_builds 222 = .ok (.iastore, 1) := by decide +kernel
theorem dL_builds_223 : decode cL_builds 223 = .ok (.aload_n 0, 1) := by decide +kernel
theorem dL_builds_224 : decode cL_builds 224 = .ok (.iload 7, 2) := by decide +kernel
theorem dL_builds_226 : decode cL_builds 226 = .ok (.iload 8, 2) := by decide +kernel
theorem dL_builds_228 : decode cL_builds 228 = .ok (.iload 9, 2) := by decide +kernel
theorem dL_builds_230 : decode cL_builds 230 = .ok (.invokevirtual 22, 3) := by decide +kernel
theorem dL_builds_233 : decode cL_builds 233 = .ok (.iload 10, 2) := by decide +kernel
theorem dL_builds_235 : decode cL_builds 235 = .ok (.if_icmp .ne 7, 3) := by decide +kernel
theorem dL_builds_238 : decode cL_builds 238 = .ok (.iconst 1, 1) := by decide +kernel
theorem dL_builds_239 : decode cL_builds 239 = .ok (.goto 4, 3) := by decide +kernel
theorem dL_builds_242 : decode cL_builds 242 = .ok (.iconst 0, 1) := by decide +kernel
theorem dL_builds_243 : decode cL_builds 243 = .ok (.ireturn, 1) := by decide +kernel
theorem dL_builds_244 : decode cL_builds 244 = .ok (.iload_n 2, 1) := by decide +kernel
theorem dL_builds_245 : decode cL_builds 245 = .ok (.aload_n 3, 1) := by decide +kernel
theorem dL_builds_246 : decode cL_builds 246 = .ok (.iconst 0, 1) := by decide +kernel
theorem dL_builds_247 : decode cL_builds 247 = .ok (.iaload, 1) := by decide +kernel
theorem dL_builds_248 : decode cL_builds 248 = .ok (.invokestatic 18, 3) := by decide +kernel
theorem dL_builds_251 : decode cL_builds 251 = .ok (.istore 7, 2) := by decide +kernel
theorem dL_builds_253 : decode cL_builds 253 = .ok (.iload 6, 2) := by decide +kernel
theorem dL_builds_255 : decode cL_builds 255 = .ok (.iconst 3, 1) := by decide +kernel
theorem dL_builds_256 : decode cL_builds 256 = .ok (.if_icmp .ne 81, 3) := by decide +kernel
theorem dL_builds_259 : decode cL_builds 259 = .ok (.aload_n 3, 1) := by decide +kernel
theorem dL_builds_260 : decode cL_builds 260 = .ok (.iconst 0, 1) := by decide +kernel
theorem dL_builds_261 : decode cL_builds 261 = .ok (.dup2, 1) := by decide +kernel
theorem dL_builds_262 : decode cL_builds 262 = .ok (.iaload, 1) := by decide +kernel
theorem dL_builds_263 : decode cL_builds 263 = .ok (.iconst 1, 1) := by decide +kernel
theorem dL_builds_264 : decode cL_builds 264 = .ok (.isub, 1) := by decide +kernel
theorem dL_builds_265 : decode cL_builds 265 = .ok (.iastore, 1) := by decide +kernel
theorem dL_builds_266 : decode cL_builds 266 = .ok (.iconst 4, 1) := by decide +kernel
theorem dL_builds_267 : decode cL_builds 267 = .ok (.iload 7, 2) := by decide +kernel
theorem dL_builds_269 : decode cL_builds 269 = .ok (.imul, 1) := by decide +kernel
theorem dL_builds_270 : decode cL_builds 270 = .ok (.istore 8, 2) := by decide +kernel
theorem dL_builds_272 : decode cL_builds 272 = .ok (.iload 8, 2) := by decide +kernel
theorem dL_builds_274 : decode cL_builds 274 = .ok (.iconst 4, 1) := by decide +kernel
theorem dL_builds_275 : decode cL_builds 275 = .ok (.aload_n 3, 1) := by decide +kernel
theorem dL_builds_276 : decode cL_builds 276 = .ok (.iconst 0, 1) := by decide +kernel
theorem dL_builds_277 : decode cL_builds 277 = .ok (.iaload, 1) := by decide +kernel
theorem dL_builds_278 : decode cL_builds 278 = .ok (.imul, 1) := by decide +kernel
theorem dL_builds_279 : decode cL_builds 279 = .ok (.if_icmp .ge 21, 3) := by decide +kernel
theorem dL_builds_282 : decode cL_builds 282 = .ok (.aload 4, 2) := by decide +kernel
theorem dL_builds_284 : decode cL_builds 284 = .ok (.iload 8, 2) := by decide +kernel
theorem dL_builds_286 : decode cL_builds 286 = .ok (.aload 4, 2) := by decide +kernel
theorem dL_builds_288 : decode cL_builds 288 = .ok (.iload 8, 2) := by decide +kernel
theorem dL_builds_290 : decode cL_builds 290 = .ok (.iconst 4, 1) := by decide +kernel
theorem dL_builds_291 : decode cL_builds 291 = .ok (.iadd, 1) := by decide +kernel
theorem dL_builds_292 : decode cL_builds 292 = .ok (.iaload, 1) := by decide +kernel
theorem dL_builds_293 : decode cL_builds 293 = .ok (.iastore, 1) := by decide +kernel
theorem dL_builds_294 : decode cL_builds 294 = .ok (.iinc 8 1, 3) := by decide +kernel
theorem dL_builds_297 : decode cL_builds 297 = .ok (.goto (-25), 3) := by decide +kernel
theorem dL_builds_300 : decode cL_builds 300 = .ok (.aload_n 3, 1) := by decide +kernel
theorem dL_builds_301 : decode cL_builds 301 = .ok (.iconst 2, 1) := by decide +kernel
theorem dL_builds_302 : decode cL_builds 302 = .ok (.iaload, 1) := by decide +kernel
theorem dL_builds_303 : decode cL_builds 303 = .ok (.bipush 6, 2) := by decide +kernel
theorem dL_builds_305 : decode cL_builds 305 = .ok (.if_icmp .ge 10, 3) := by decide +kernel
theorem dL_builds_308 : decode cL_builds 308 = .ok (.aload_n 3, 1) := by decide +kernel
theorem dL_builds_309 : decode cL_builds 309 = .ok (.iconst 2, 1) := by decide +kernel
theorem dL_builds_310 : decode cL_builds 310 = .ok (.dup2, 1) := by decide +kernel
theorem dL_builds_311 : decode cL_builds 311 = .ok (.iaload, 1) := by decide +kernel
theorem dL_builds_312 : decode cL_builds 312 = .ok (.iconst 1, 1) := by decide +kernel
theorem dL_builds_313 : decode cL_builds 313 = .ok (.iadd, 1) := by decide +kernel
theorem dL_builds_314 : decode cL_builds 314 = .ok (.iastore, 1) := by decide +kernel
theorem dL_builds_315 : decode cL_builds 315 = .ok (.aload_n 0, 1) := by decide +kernel
theorem dL_builds_316 : decode cL_builds 316 = .ok (.iload 7, 2) := by decide +kernel
theorem dL_builds_318 : decode cL_builds 318 = .ok (.invokevirtual 28, 3) := by decide +kernel
theorem dL_builds_321 : decode cL_builds 321 = .ok (.aload_n 3, 1) := by decide +kernel
theorem dL_builds_322 : decode cL_builds 322 = .ok (.aload 4, 2) := by decide +kernel
theorem dL_builds_324 : decode cL_builds 324 = .ok (.iconst 0, 1) := by decide +kernel
theorem dL_builds_325 : decode cL_builds 325 = .ok (.invokestatic 32, 3) := by decide +kernel
theorem dL_builds_328 : decode cL_builds 328 = .ok (.if_icmp .ne 7, 3) := by decide +kernel
theorem dL_builds_331 : decode cL_builds 331 = .ok (.iconst 1, 1) := by decide +kernel
theorem dL_builds_332 : decode cL_builds 332 = .ok (.goto 4, 3) := by decide +kernel
theorem dL_builds_335 : decode cL_builds 335 = .ok (.iconst 0, 1) := by decide +kernel
theorem dL_builds_336 : decode cL_builds 336 = .ok (.ireturn, 1) := by decide +kernel
theorem dL_builds_337 : decode cL_builds 337 = .ok (.iload 6, 2) := by decide +kernel
theorem dL_builds_339 : decode cL_builds 339 = .ok (.bipush 6, 2) := by decide +kernel
theorem dL_builds_341 : decode cL_builds 341 = .ok (.if_icmp .ge 209, 3) := by decide +kernel
theorem dL_builds_344 : decode cL_builds 344 = .ok (.aload_n 3, 1) := by decide +kernel
theorem dL_builds_345 : decode cL_builds 345 = .ok (.iconst 1, 1) := by decide +kernel
theorem dL_builds_346 : decode cL_builds 346 = .ok (.iaload, 1) := by decide +kernel
theorem dL_builds_347 : decode cL_builds 347 = .ok (.iconst 4, 1) := by decide +kernel
theorem dL_builds_348 : decode cL_builds 348 = .ok (.if_icmp .ne 84, 3) := by decide +kernel
theorem dL_builds_351 : decode cL_builds 351 = .ok (.iload_n 2, 1) := by decide +kernel
theorem dL_builds_352 : decode cL_builds 352 = .ok (.iconst 4, 1) := by decide +kernel
theorem dL_builds_353 : decode cL_builds 353 = .ok (.invokestatic 18, 3) := by decide +kernel
theorem dL_builds_356 : decode cL_builds 356 = .ok (.istore 8, 2) := by decide +kernel
theorem dL_builds_358 : decode cL_builds 358 = .ok (.aload_n 3, 1) := by decide +kernel
theorem dL_builds_359 : decode cL_builds 359 = .ok (.iconst 1, 1) := by decide +kernel
theorem dL_builds_360 : decode cL_builds 360 = .ok (.dup2, 1) := by decide +kernel
theorem dL_builds_361 : decode cL_builds 361 = .ok (.iaload, 1) := by decide +kernel
theorem dL_builds_362 : decode cL_builds 362 = .ok (.iconst 1, 1) := by decide +kernel
theorem dL_builds_363 : decode cL_builds 363 = .ok (.isub, 1) := by decide +kernel
theorem dL_builds_364 : decode cL_builds 364 = .ok (.iastore, 1) := by decide +kernel
theorem dL_builds_365 : decode cL_builds 365 = .ok (.iconst 3, 1) := by decide +kernel
theorem dL_builds_366 : decode cL_builds 366 = .ok (.iload 8, 2) := by decide +kernel
theorem dL_builds_368 : decode cL_builds 368 = .ok (.imul, 1) := by decide +kernel
theorem dL_builds_369 : decode cL_builds 369 = .ok (.istore 9, 2) := by decide +kernel
theorem dL_builds_371 : decode cL_builds 371 = .ok (.iload 9, 2) := by decide +kernel
theorem dL_builds_373 : decode cL_builds 373 = .ok (.iconst 3, 1) := by decide +kernel
theorem dL_builds_374 : decode cL_builds 374 = .ok (.aload_n 3, 1) := by decide +kernel
theorem dL_builds_375 : decode cL_builds 375 = .ok (.iconst 1, 1) := by decide +kernel
theorem dL_builds_376 : decode cL_builds 376 = .ok (.iaload, 1) := by decide +kernel
theorem dL_builds_377 : decode cL_builds 377 = .ok (.imul, 1) := by decide +kernel
theorem dL_builds_378 : decode cL_builds 378 = .ok (.if_icmp .ge 21, 3) := by decide +kernel
theorem dL_builds_381 : decode cL_builds 381 = .ok (.aload 5, 2) := by decide +kernel
theorem dL_builds_383 : decode cL_builds 383 = .ok (.iload 9, 2) := by decide +kernel
theorem dL_builds_385 : decode cL_builds 385 = .ok (.aload 5, 2) := by decide +kernel
theorem dL_builds_387 : decode cL_builds 387 = .ok (.iload 9, 2) := by decide +kernel
theorem dL_builds_389 : decode cL_builds 389 = .ok (.iconst 3, 1) := by decide +kernel
theorem dL_builds_390 : decode cL_builds 390 = .ok (.iadd, 1) := by decide +kernel
theorem dL_builds_391 : decode cL_builds 391 = .ok (.iaload, 1) := by decide +kernel
theorem dL_builds_392 : decode cL_builds 392 = .ok (.iastore, 1) := by decide +kernel
theorem dL_builds_393 : decode cL_builds 393 = .ok (.iinc 9 1, 3) := by decide +kernel
theorem dL_builds_396 : decode cL_builds 396 = .ok (.goto (-25), 3) := by decide +kernel
theorem dL_builds_399 : decode cL_builds 399 = .ok (.aload_n 3, 1) := by decide +kernel
theorem dL_builds_400 : decode cL_builds 400 = .ok (.iconst 2, 1) := by decide +kernel
theorem dL_builds_401 : decode cL_builds 401 = .ok (.iaload, 1) := by decide +kernel
theorem dL_builds_402 : decode cL_builds 402 = .ok (.bipush 6, 2) := by decide +kernel
theorem dL_builds_404 : decode cL_builds 404 = .ok (.if_icmp .ge 10, 3) := by decide +kernel
theorem dL_builds_407 : decode cL_builds 407 = .ok (.aload_n 3, 1) := by decide +kernel
theorem dL_builds_408 : decode cL_builds 408 = .ok (.iconst 2, 1) := by decide +kernel
theorem dL_builds_409 : decode cL_builds 409 = .ok (.dup2, 1) := by decide +kernel
theorem dL_builds_410 : decode cL_builds 410 = .ok (.iaload, 1) := by decide +kernel
theorem dL_builds_411 : decode cL_builds 411 = .ok (.iconst 1, 1) := by decide +kernel
theorem dL_builds_412 : decode cL_builds 412 = .ok (.iadd, 1) := by decide +kernel
theorem dL_builds_413 : decode cL_builds 413 = .ok (.iastore, 1) := by decide +kernel
theorem dL_builds_414 : decode cL_builds 414 = .ok (.aload_n 0, 1) := by decide +kernel
theorem dL_builds_415 : decode cL_builds 415 = .ok (.iload 8, 2) := by decide +kernel
theorem dL_builds_417 : decode cL_builds 417 = .ok (.invokevirtual 36, 3) := by decide +kernel
theorem dL_builds_420 : decode cL_builds 420 = .ok (.aload_n 3, 1) := by decide +kernel
theorem dL_builds_421 : decode cL_builds 421 = .ok (.iconst 1, 1) := by decide +kernel
theorem dL_builds_422 : decode cL_builds 422 = .ok (.iaload, 1) := by decide +kernel
theorem dL_builds_423 : decode cL_builds 423 = .ok (.if_icmp .ne 7, 3) := by decide +kernel
theorem dL_builds_426 : decode cL_builds 426 = .ok (.iconst 1, 1) := by decide +kernel
theorem dL_builds_427 : decode cL_builds 427 = .ok (.goto 4, 3) := by decide +kernel
theorem dL_builds_430 : decode cL_builds 430 = .ok (.iconst 0, 1) := by decide +kernel
theorem dL_builds_431 : decode cL_builds 431 = .ok (.ireturn, 1) := by decide +kernel
theorem dL_builds_432 : decode cL_builds 432 = .ok (.aload_n 3, 1) := by decide +kernel
theorem dL_builds_433 : decode cL_builds 433 = .ok (.iconst 1, 1) := by decide +kernel
theorem dL_builds_434 : decode cL_builds 434 = .ok (.dup2, 1) := by decide +kernel
theorem dL_builds_435 : decode cL_builds 435 = .ok (.iaload, 1) := by decide +kernel
theorem dL_builds_436 : decode cL_builds 436 = .ok (.dup_x2, 1) := by decide +kernel
theorem dL_builds_437 : decode cL_builds 437 = .ok (.iconst 1, 1) := by decide +kernel
theorem dL_builds_438 : decode cL_builds 438 = .ok (.iadd, 1) := by decide +kernel
theorem dL_builds_439 : decode cL_builds 439 = .ok (.iastore, 1) := by decide +kernel
theorem dL_builds_440 : decode cL_builds 440 = .ok (.istore 8, 2) := by decide +kernel
theorem dL_builds_442 : decode cL_builds 442 = .ok (.aload 5, 2) := by decide +kernel
theorem dL_builds_444 : decode cL_builds 444 = .ok (.iconst 3, 1) := by decide +kernel
theorem dL_builds_445 : decode cL_builds 445 = .ok (.iload 8, 2) := by decide +kernel
theorem dL_builds_447 : decode cL_builds 447 = .ok (.imul, 1) := by decide +kernel
theorem dL_builds_448 : decode cL_builds 448 = .ok (.iconst 1, 1) := by decide +kernel
theorem dL_builds_449 : decode cL_builds 449 = .ok (.iload_n 2, 1) := by decide +kernel
theorem dL_builds_450 : decode cL_builds 450 = .ok (.bipush 60, 2) := by decide +kernel
theorem dL_builds_452 : decode cL_builds 452 = .ok (.invokestatic 18, 3) := by decide +kernel
theorem dL_builds_455 : decode cL_builds 455 = .ok (.iadd, 1) := by decide +kernel
theorem dL_builds_456 : decode cL_builds 456 = .ok (.iastore, 1) := by decide +kernel
theorem dL_builds_457 : decode cL_builds 457 = .ok (.aload 5, 2) := by decide +kernel
theorem dL_builds_459 : decode cL_builds 459 = .ok (.iconst 3, 1) := by decide +kernel
theorem dL_builds_460 : decode cL_builds 460 = .ok (.iload 8, 2) := by decide +kernel
theorem dL_builds_462 : decode cL_builds 462 = .ok (.imul, 1) := by decide +kernel
theorem dL_builds_463 : decode cL_builds 463 = .ok (.iconst 1, 1) := by decide +kernel
theorem dL_builds_464 : decode cL_builds 464 = .ok (.iadd, 1) := by decide +kernel
theorem dL_builds_465 : decode cL_builds 465 = .ok (.iload_n 2, 1) := by decide +kernel
theorem dL_builds_466 : decode cL_builds 466 = .ok (.bipush 6, 2) := by decide +kernel
theorem dL_builds_468 : decode cL_builds 468 = .ok (.ishr, 1) := by decide +kernel
theorem dL_builds_469 : decode cL_builds 469 = .ok (.bipush 13, 2) := by decide +kernel
theorem dL_builds_471 : decode cL_builds 471 = .ok (.invokestatic 18, 3) := by decide +kernel
theorem dL_builds_474 : decode cL_builds 474 = .ok (.bipush 6, 2) := by decide +kernel
theorem dL_builds_476 : decode cL_builds 476 = .ok (.isub, 1) := by decide +kernel
theorem dL_builds_477 : decode cL_builds 477 = .ok (.iastore, 1) := by decide +kernel
theorem dL_builds_478 : decode cL_builds 478 = .ok (.aload 5, 2) := by decide +kernel
theorem dL_builds_480 : decode cL_builds 480 = .ok (.iconst 3, 1) := by decide +kernel
theorem dL_builds_481 : decode cL_builds 481 = .ok (.iload 8, 2) := by decide +kernel
theorem dL_builds_483 : decode cL_builds 483 = .ok (.imul, 1) := by decide +kernel
theorem dL_builds_484 : decode cL_builds 484 = .ok (.iconst 2, 1) := by decide +kernel
theorem dL_builds_485 : decode cL_builds 485 = .ok (.iadd, 1) := by decide +kernel
theorem dL_builds_486 : decode cL_builds 486 = .ok (.iload_n 2, 1) := by decide +kernel
theorem dL_builds_487 : decode cL_builds 487 = .ok (.bipush 10, 2) := by decide +kernel
theorem dL_builds_489 : decode cL_builds 489 = .ok (.ishr, 1) := by decide +kernel
theorem dL_builds_490 : decode cL_builds 490 = .ok (.iconst 4, 1) := by decide +kernel
theorem dL_builds_491 : decode cL_builds 491 = .ok (.invokestatic 18, 3) := by decide +kernel
theorem dL_builds_494 : decode cL_builds 494 = .ok (.iastore, 1) := by decide +kernel
theorem dL_builds_495 : decode cL_builds 495 = .ok (.aload_n 3, 1) := by decide +kernel
theorem dL_builds_496 : decode cL_builds 496 = .ok (.iconst 2, 1) := by decide +kernel
theorem dL_builds_497 : decode cL_builds 497 = .ok (.iaload, 1) := by decide +kernel
theorem dL_builds_498 : decode cL_builds 498 = .ok (.bipush 6, 2) := by decide +kernel
theorem dL_builds_500 : decode cL_builds 500 = .ok (.if_icmp .ge 10, 3) := by decide +kernel
theorem dL_builds_503 : decode cL_builds 503 = .ok (.aload_n 3, 1) := by decide +kernel
theorem dL_builds_504 : decode cL_builds 504 = .ok (.iconst 2, 1) := by decide +kernel
theorem dL_builds_505 : decode cL_builds 505 = .ok (.dup2, 1) := by decide +kernel
theorem dL_builds_506 : decode cL_builds 506 = .ok (.iaload, 1) := by decide +kernel
theorem dL_builds_507 : decode cL_builds 507 = .ok (.iconst 1, 1) := by decide +kernel
theorem dL_builds_508 : decode cL_builds 508 = .ok (.iadd, 1) := by decide +kernel
theorem dL_builds_509 : decode cL_builds 509 = .ok (.iastore, 1) := by decide +kernel
theorem dL_builds_510 : decode cL_builds 510 = .ok (.aload_n 0, 1) := by decide +kernel
theorem dL_builds_511 : decode cL_builds 511 = .ok (.aload 5, 2) := by decide +kernel
theorem dL_builds_513 : decode cL_builds 513 = .ok (.iconst 3, 1) := by decide +kernel
theorem dL_builds_514 : decode cL_builds 514 = .ok (.iload 8, 2) := by decide +kernel
theorem dL_builds_516 : decode cL_builds 516 = .ok (.imul, 1) := by decide +kernel
theorem dL_builds_517 : decode cL_builds 517 = .ok (.iaload, 1) := by decide +kernel
theorem dL_builds_518 : decode cL_builds 518 = .ok (.aload 5, 2) := by decide +kernel
theorem dL_builds_520 : decode cL_builds 520 = .ok (.iconst 3, 1) := by decide +kernel
theorem dL_builds_521 : decode cL_builds 521 = .ok (.iload 8, 2) := by decide +kernel
theorem dL_builds_523 : decode cL_builds 523 = .ok (.imul, 1) := by decide +kernel
theorem dL_builds_524 : decode cL_builds 524 = .ok (.iconst 1, 1) := by decide +kernel
theorem dL_builds_525 : decode cL_builds 525 = .ok (.iadd, 1) := by decide +kernel
theorem dL_builds_526 : decode cL_builds 526 = .ok (.iaload, 1) := by decide +kernel
theorem dL_builds_527 : decode cL_builds 527 = .ok (.aload 5, 2) := by decide +kernel
theorem dL_builds_529 : decode cL_builds 529 = .ok (.iconst 3, 1) := by decide +kernel
theorem dL_builds_530 : decode cL_builds 530 = .ok (.iload 8, 2) := by decide +kernel
theorem dL_builds_532 : decode cL_builds 532 = .ok (.imul, 1) := by decide +kernel
theorem dL_builds_533 : decode cL_builds 533 = .ok (.iconst 2, 1) := by decide +kernel
theorem dL_builds_534 : decode cL_builds 534 = .ok (.iadd, 1) := by decide +kernel
theorem dL_builds_535 : decode cL_builds 535 = .ok (.iaload, 1) := by decide +kernel
theorem dL_builds_536 : decode cL_builds 536 = .ok (.invokevirtual 39, 3) := by decide +kernel
theorem dL_builds_539 : decode cL_builds 539 = .ok (.iload 8, 2) := by decide +kernel
theorem dL_builds_541 : decode cL_builds 541 = .ok (.if_icmp .ne 7, 3) := by decide +kernel
theorem dL_builds_544 : decode cL_builds 544 = .ok (.iconst 1, 1) := by decide +kernel
theorem dL_builds_545 : decode cL_builds 545 = .ok (.goto 4, 3) := by decide +kernel
theorem dL_builds_548 : decode cL_builds 548 = .ok (.iconst 0, 1) := by decide +kernel
theorem dL_builds_549 : decode cL_builds 549 = .ok (.ireturn, 1) := by decide +kernel
theorem dL_builds_550 : decode cL_builds 550 = .ok (.aload_n 3, 1) := by decide +kernel
theorem dL_builds_551 : decode cL_builds 551 = .ok (.iconst 2, 1) := by decide +kernel
theorem dL_builds_552 : decode cL_builds 552 = .ok (.iaload, 1) := by decide +kernel
theorem dL_builds_553 : decode cL_builds 553 = .ok (.bipush 6, 2) := by decide +kernel
theorem dL_builds_555 : decode cL_builds 555 = .ok (.if_icmp .ge 10, 3) := by decide +kernel
theorem dL_builds_558 : decode cL_builds 558 = .ok (.aload_n 3, 1) := by decide +kernel
theorem dL_builds_559 : decode cL_builds 559 = .ok (.iconst 2, 1) := by decide +kernel
theorem dL_builds_560 : decode cL_builds 560 = .ok (.dup2, 1) := by decide +kernel
theorem dL_builds_561 : decode cL_builds 561 = .ok (.iaload, 1) := by decide +kernel
theorem dL_builds_562 : decode cL_builds 562 = .ok (.iconst 1, 1) := by decide +kernel
theorem dL_builds_563 : decode cL_builds 563 = .ok (.iadd, 1) := by decide +kernel
theorem dL_builds_564 : decode cL_builds 564 = .ok (.iastore, 1) := by decide +kernel
theorem dL_builds_565 : decode cL_builds 565 = .ok (.iload 6, 2) := by decide +kernel
theorem dL_builds_567 : decode cL_builds 567 = .ok (.bipush 6, 2) := by decide +kernel
theorem dL_builds_569 : decode cL_builds 569 = .ok (.if_icmp .ne 58, 3) := by decide +kernel
theorem dL_builds_572 : decode cL_builds 572 = .ok (.aload 4, 2) := by decide +kernel
theorem dL_builds_574 : decode cL_builds 574 = .ok (.iconst 4, 1) := by decide +kernel
theorem dL_builds_575 : decode cL_builds 575 = .ok (.iload 7, 2) := by decide +kernel
theorem dL_builds_577 : decode cL_builds 577 = .ok (.imul, 1) := by decide +kernel
theorem dL_builds_578 : decode cL_builds 578 = .ok (.iconst 1, 1) := by decide +kernel
theorem dL_builds_579 : decode cL_builds 579 = .ok (.iadd, 1) := by decide +kernel
theorem dL_builds_580 : decode cL_builds 580 = .ok (.iaload, 1) := by decide +kernel
theorem dL_builds_581 : decode cL_builds 581 = .ok (.istore 8, 2) := by decide +kernel
theorem dL_builds_583 : decode cL_builds 583 = .ok (.aload 4, 2) := by decide +kernel
theorem dL_builds_585 : decode cL_builds 585 = .ok (.iconst 4, 1) := by decide +kernel
theorem dL_builds_586 : decode cL_builds 586 = .ok (.iload 7, 2) := by decide +kernel
theorem dL_builds_588 : decode cL_builds 588 = .ok (.imul, 1) := by decide +kernel
theorem dL_builds_589 : decode cL_builds 589 = .ok (.iconst 1, 1) := by decide +kernel
theorem dL_builds_590 : decode cL_builds 590 = .ok (.iadd, 1) := by decide +kernel
theorem dL_builds_591 : decode cL_builds 591 = .ok (.iload_n 2, 1) := by decide +kernel
theorem dL_builds_592 : decode cL_builds 592 = .ok (.iconst 4, 1) := by decide +kernel
theorem dL_builds_593 : decode cL_builds 593 = .ok (.ishr, 1) := by decide +kernel
theorem dL_builds_594 : decode cL_builds 594 = .ok (.sipush 200, 3) := by decide +kernel
theorem dL_builds_597 : decode cL_builds 597 = .ok (.invokestatic 18, 3) := by decide +kernel
theorem dL_builds_600 : decode cL_builds 600 = .ok (.iastore, 1) := by decide +kernel
theorem dL_builds_601 : decode cL_builds 601 = .ok (.aload_n 0, 1) := by decide +kernel
theorem dL_builds_602 : decode cL_builds 602 = .ok (.iload 7, 2) := by decide +kernel
theorem dL_builds_604 : decode cL_builds 604 = .ok (.aload 4, 2) := by decide +kernel
theorem dL_builds_606 : decode cL_builds 606 = .ok (.iconst 4, 1) := by decide +kernel
theorem dL_builds_607 : decode cL_builds 607 = .ok (.iload 7, 2) := by decide +kernel
theorem dL_builds_609 : decode cL_builds 609 = .ok (.imul, 1) := by decide +kernel
theorem dL_builds_610 : decode cL_builds 610 = .ok (.iconst 1, 1) := by decide +kernel
theorem dL_builds_611 : decode cL_builds 611 = .ok (.iadd, 1) := by decide +kernel
theorem dL_builds_612 : decode cL_builds 612 = .ok (.iaload, 1) := by decide +kernel
theorem dL_builds_613 : decode cL_builds 613 = .ok (.invokevirtual 42, 3) := by decide +kernel
theorem dL_builds_616 : decode cL_builds 616 = .ok (.iload 8, 2) := by decide +kernel
theorem dL_builds_618 : decode cL_builds 618 = .ok (.if_icmp .ne 7, 3) := by decide +kernel
theorem dL_builds_621 : decode cL_builds 621 = .ok (.iconst 1, 1) := by decide +kernel
theorem dL_builds_622 : decode cL_builds 622 = .ok (.goto 4, 3) := by decide +kernel
theorem dL_builds_625 : decode cL_builds 625 = .ok (.iconst 0, 1) := by decide +kernel
theorem dL_builds_626 : decode cL_builds 626 = .ok (.ireturn, 1) := by decide +kernel
theorem dL_builds_627 : decode cL_builds 627 = .ok (.iload_n 2, 1) := by decide +kernel
theorem dL_builds_628 : decode cL_builds 628 = .ok (.iconst 3, 1) := by decide +kernel
theorem dL_builds_629 : decode cL_builds 629 = .ok (.invokestatic 18, 3) := by decide +kernel
theorem dL_builds_632 : decode cL_builds 632 = .ok (.istore 8, 2) := by decide +kernel
theorem dL_builds_634 : decode cL_builds 634 = .ok (.aload_n 3, 1) := by decide +kernel
theorem dL_builds_635 : decode cL_builds 635 = .ok (.iconst 3, 1) := by decide +kernel
theorem dL_builds_636 : decode cL_builds 636 = .ok (.iload 8, 2) := by decide +kernel
theorem dL_builds_638 : decode cL_builds 638 = .ok (.iadd, 1) := by decide +kernel
theorem dL_builds_639 : decode cL_builds 639 = .ok (.iaload, 1) := by decide +kernel
theorem dL_builds_640 : decode cL_builds 640 = .ok (.istore 9, 2) := by decide +kernel
theorem dL_builds_642 : decode cL_builds 642 = .ok (.aload_n 3, 1) := by decide +kernel
theorem dL_builds_643 : decode cL_builds 643 = .ok (.iconst 3, 1) := by decide +kernel
theorem dL_builds_644 : decode cL_builds 644 = .ok (.iload 8, 2) := by decide +kernel
theorem dL_builds_646 : decode cL_builds 646 = .ok (.iadd, 1) := by decide +kernel
theorem dL_builds_647 : decode cL_builds 647 = .ok (.iload 8, 2) := by decide +kernel
theorem dL_builds_649 : decode cL_builds 649 = .ok (.ifCond .ne 15, 3) := by decide +kernel
theorem dL_builds_652 : decode cL_builds 652 = .ok (.iload_n 2, 1) := by decide +kernel
theorem dL_builds_653 : decode cL_builds 653 = .ok (.iconst 2, 1) := by decide +kernel
theorem dL_builds_654 : decode cL_builds 654 = .ok (.ishr, 1) := by decide +kernel
theorem dL_builds_655 : decode cL_builds 655 = .ok (.sipush 250, 3) := by decide +kernel
theorem dL_builds_658 : decode cL_builds 658 = .ok (.invokestatic 18, 3) := by decide +kernel
theorem dL_builds_661 : decode cL_builds 661 = .ok (.goto 31, 3) := by decide +kernel
theorem dL_builds_664 : decode cL_builds 664 = .ok (.iload 8, 2) := by decide +kernel
theorem dL_builds_666 : decode cL_builds 666 = .ok (.iconst 1, 1) := by decide +kernel
theorem dL_builds_667 : decode cL_builds 667 = .ok (.if_icmp .ne 17, 3) := by decide +kernel
theorem dL_builds_670 : decode cL_builds 670 = .ok (.iconst 1, 1) := by decide +kernel
theorem dL_builds_671 : decode cL_builds 671 = .ok (.iload_n 2, 1) := by decide +kernel
theorem dL_builds_672 : decode cL_builds 672 = .ok (.iconst 2, 1) := by decide +kernel
theorem dL_builds_673 : decode cL_builds 673 = .ok (.ishr, 1) := by decide +kernel
theorem dL_builds_674 : decode cL_builds 674 = .ok (.sipush 150, 3) := by decide +kernel
theorem dL_builds_677 : decode cL_builds 677 = .ok (.invokestatic 18, 3) := by decide +kernel
theorem dL_builds_680 : decode cL_builds 680 = .ok (.iadd, 1) := by decide +kernel
theorem dL_builds_681 : decode cL_builds 681 = .ok (.goto 11, 3) := by decide +kernel
theorem dL_builds_684 : decode cL_builds 684 = .ok (.iload_n 2, 1) := by decide +kernel
theorem dL_builds_685 : decode cL_builds 685 = .ok (.iconst 2, 1) := by decide +kernel
theorem dL_builds_686 : decode cL_builds 686 = .ok (.ishr, 1) := by decide +kernel
theorem dL_builds_687 : decode cL_builds 687 = .ok (.bipush 40, 2) := by decide +kernel
theorem dL_builds_689 : decode cL_builds 689 = .ok (.invokestatic 18, 3) := by decide +kernel
theorem dL_builds_692 : decode cL_builds 692 = .ok (.iastore, 1) := by decide +kernel
theorem dL_builds_693 : decode cL_builds 693 = .ok (.aload_n 0, 1) := by decide +kernel
theorem dL_builds_694 : decode cL_builds 694 = .ok (.iload 8, 2) := by decide +kernel
theorem dL_builds_696 : decode cL_builds 696 = .ok (.aload_n 3, 1) := by decide +kernel
theorem dL_builds_697 : decode cL_builds 697 = .ok (.iconst 3, 1) := by decide +kernel
theorem dL_builds_698 : decode cL_builds 698 = .ok (.iload 8, 2) := by decide +kernel
theorem dL_builds_700 : decode cL_builds 700 = .ok (.iadd, 1) := by decide +kernel
theorem dL_builds_701 : decode cL_builds 701 = .ok (.iaload, 1) := by decide +kernel
theorem dL_builds_702 : decode cL_builds 702 = .ok (.invokevirtual 45, 3) := by decide +kernel
theorem dL_builds_705 : decode cL_builds 705 = .ok (.iload 9, 2) := by decide +kernel
theorem dL_builds_707 : decode cL_builds 707 = .ok (.if_icmp .ne 7, 3) := by decide +kernel
theorem dL_builds_710 : decode cL_builds 710 = .ok (.iconst 1, 1) := by decide +kernel
theorem dL_builds_711 : decode cL_builds 711 = .ok (.goto 4, 3) := by decide +kernel
theorem dL_builds_714 : decode cL_builds 714 = .ok (.iconst 0, 1) := by decide +kernel
theorem dL_builds_715 : decode cL_builds 715 = .ok (.ireturn, 1) := by decide +kernel
set_option maxRecDepth 20000 in
theorem ggL_sits_L_at : GoodIn wsL_sits wsL_at := goodIn_r _ [4] (by decide +kernel) (by decide +kernel)
set_option maxRecDepth 20000 in
theorem gL_sits_L_at : GoodIn wsL_sits (va_wsS RL 18 yL_at wsL_at) := goodIn_app (goodIn_of _ (by decide +kernel)) ggL_sits_L_at
set_option maxRecDepth 20000 in
theorem ggL_sits_X4_leave : GoodIn wsL_sits wsX4_leave := goodIn_ca (goodIn_ca (goodIn_r _ [9, 10, 11, 12, 13, 14, 15, 8, 16, 17, 18, 19, 20, 21, 22, 23, 24, 25, 26, 27, 28, 29, 30, 31, 32, 33, 34, 35, 36, 37, 38, 39, 40, 41, 42, 43, 44, 45, 46, 47, 48, 49, 50, 51, 52, 53, 54, 55, 56, 57, 58, 59, 60, 61, 62, 63, 64, 65, 66, 67, 68, 69, 70, 71, 72, 73, 74, 75, 76, 77, 78, 79, 80, 81, 82, 83, 84, 85, 86, 87, 88, 89, 90, 91, 92, 244, 245, 246, 247, 248, 249, 250, 251, 252, 253, 254, 255, 256, 257, 258, 259, 260, 261, 262, 263, 264, 265] (by decide +kernel) (by decide +kernel)) (goodIn_sub (fun _ h => List.mem_cons_of_mem _ (List.mem_append_left _ (List.mem_append_left _ (List.mem_append_right _ h)))) (by decide +kernel))) (goodIn_sub (fun _ h => List.mem_cons_of_mem _ (List.mem_append_left _ (List.mem_append_right _ h))) (by decide +kernel))
set_option maxRecDepth 20000 in
theorem gL_sits_X4_leave : GoodIn wsL_sits (wsV RL 48 RX4 yX4_leave wsX4_leave) := goodIn_app (goodIn_of _ (by decide +kernel)) ggL_sits_X4_leave
set_option maxRecDepth 20000 in
theorem ggL_sits_L_all : GoodIn wsL_sits wsL_all := goodIn_r _ [95] (by decide +kernel) (by decide +kernel)
set_option maxRecDepth 20000 in
theorem gL_sits_L_all : GoodIn wsL_sits (va_wsS RL 32 yL_all wsL_all) := goodIn_app (goodIn_of _ (by decide +kernel)) ggL_sits_L_all
set_option maxRecDepth 20000 in
theorem ggL_sits_X4_take : GoodIn wsL_sits wsX4_take := goodIn_ca (goodIn_ca (goodIn_r _ [99, 10, 11, 12, 13, 14, 15, 8, 16, 17, 18, 19, 20, 21, 22, 23, 24, 25, 26, 27, 28, 29, 30, 31, 32, 33, 34, 35, 36, 37, 38, 39, 40, 41, 42, 43, 44, 45, 46, 47, 48, 49, 50, 51, 52, 53, 54, 55, 56, 57, 58, 59, 60, 61, 62, 63, 64, 65, 66, 67, 68, 69, 70, 100, 101, 102, 103, 75, 76, 77, 104, 105, 106, 107, 108, 109, 110, 111, 112, 113, 114, 115, 116, 117, 118, 119, 120, 121, 122, 123, 124, 125, 126, 127, 128, 244, 245, 246, 247, 248, 249, 250, 251, 252, 253, 254, 255, 256, 257, 258, 259, 260, 261, 262, 263, 264, 265] (by decide +kernel) (by decide +kernel)) (goodIn_sub (fun _ h => List.mem_cons_of_mem _ (List.mem_append_left _ (List.mem_append_left _ (List.mem_append_right _ h)))) (by decide +kernel))) (goodIn_sub (fun _ h => List.mem_cons_of_mem _ (List.mem_append_left _ (List.mem_append_right _ h))) (by decide +kernel))
set_option maxRecDepth 20000 in
theorem gL_sits_X4_take : GoodIn wsL_sits (wsV RL 51 RX4 yX4_take wsX4_take) := goodIn_app (goodIn_of _ (by decide +kernel)) ggL_sits_X4_take
set_option maxRecDepth 20000 in
theorem ggL_sits_L_people : GoodIn wsL_sits wsL_people := goodIn_r _ [131, 132, 133, 3, 134, 135, 136, 137] (by decide +kernel) (by decide +kernel)
set_option maxRecDepth 20000 in
theorem gL_sits_L_people : GoodIn wsL_sits (va_wsS RL 54 yL_people wsL_people) := goodIn_app (goodIn_of _ (by decide +kernel)) ggL_sits_L_people
set_option maxRecDepth 20000 in
theorem ggL_sits_X4_clear : GoodIn wsL_sits wsX4_clear := goodIn_r _ [141, 12, 31, 32, 33, 8, 34, 35, 36, 37, 38, 39, 40, 41, 42, 43, 44, 45, 46, 47, 48, 49, 50, 28, 51, 52, 53, 54, 55, 56, 57, 58, 59, 30, 60, 61, 62, 63, 64, 65, 66, 67, 68, 69, 70, 78, 79, 80, 81, 82, 83, 84, 85, 86, 87, 88, 89, 90, 91, 92, 142, 143, 144, 145, 244, 245, 246, 247, 248, 259, 260, 249, 250, 251, 252, 253, 254, 255, 256, 257, 258, 261, 262, 263, 264, 265] (by decide +kernel) (by decide +kernel)
set_option maxRecDepth 20000 in
theorem gL_sits_X4_clear : GoodIn wsL_sits (wsV RL 58 RX4 yX4_clear wsX4_clear) := goodIn_app (goodIn_of _ (by decide +kernel)) ggL_sits_X4_clear
set_option maxRecDepth 20000 in
theorem ggL_sits_L_columns : GoodIn wsL_sits wsL_columns := goodIn_r _ [148, 135, 136, 3, 137] (by decide +kernel) (by decide +kernel)
set_option maxRecDepth 20000 in
theorem gL_sits_L_columns : GoodIn wsL_sits (va_wsS RL 62 yL_columns wsL_columns) := goodIn_app (goodIn_of _ (by decide +kernel)) ggL_sits_L_columns
set_option maxRecDepth 20000 in
theorem ggL_sits_X4_count : GoodIn wsL_sits wsX4_count := goodIn_ca (goodIn_r _ [152, 36, 153, 154, 8, 155, 156, 157, 158, 159, 160, 68, 161, 70, 162, 163, 164, 165, 166, 167, 168, 169, 170, 171, 105, 106, 28, 107, 59, 108, 26, 27, 29, 30, 109, 110, 111, 112, 53, 113, 114, 115, 116, 117, 118, 119, 120, 121, 122, 123, 124, 58, 64, 125, 126, 127, 128, 172, 173, 174, 175, 60, 176, 177, 178, 179, 61, 62, 63, 180, 181, 182, 183, 184, 185, 186, 187, 188, 189, 190, 191, 192, 193, 12, 24, 194, 35, 195, 196, 197, 198, 199, 52, 78, 79, 80, 81, 82, 83, 84, 85, 86, 87, 88, 89, 90, 91, 92, 200, 201, 202, 203, 204, 205, 206, 207, 208, 209, 210, 211, 212, 213, 214, 215, 216, 217, 218, 219, 220, 221, 222, 223, 224, 225, 226, 227, 244, 245, 246, 247, 248, 261, 262, 263, 264, 265, 249, 250, 251, 252, 253, 254, 255, 256, 257, 258, 259, 260] (by decide +kernel) (by decide +kernel)) (goodIn_sub (fun _ h => List.mem_cons_of_mem _ (List.mem_append_right _ h)) (by decide +kernel))
set_option maxRecDepth 20000 in
theorem gL_sits_X4_count : GoodIn wsL_sits (wsV RL 66 RX4 yX4_count wsX4_count) := goodIn_app (goodIn_of _ (by decide +kernel)) ggL_sits_X4_count
set_option maxRecDepth 20000 in
theorem ggL_sits_X4_seatParty : GoodIn wsL_sits wsX4_seatParty := goodIn_ca (goodIn_ca (goodIn_r _ [231, 156, 157, 10, 11, 36, 12, 158, 159, 160, 68, 161, 70, 162, 163, 164, 165, 166, 167, 168, 169, 170, 171, 105, 106, 28, 107, 59, 108, 26, 27, 29, 30, 109, 110, 111, 112, 53, 113, 114, 115, 116, 117, 118, 119, 120, 121, 122, 123, 124, 58, 64, 125, 126, 127, 128, 172, 173, 174, 175, 60, 176, 177, 178, 179, 61, 62, 63, 180, 181, 182, 183, 184, 185, 186, 187, 188, 189, 232, 233, 234, 235, 236, 237, 238, 239, 240, 241, 242, 243, 75, 76, 77, 31, 32, 33, 8, 34, 35, 37, 38, 39, 40, 41, 42, 43, 44, 45, 46, 47, 48, 49, 50, 51, 52, 54, 55, 56, 57, 65, 66, 67, 69, 100, 101, 102, 103, 244, 245, 246, 247, 248, 261, 262, 263, 264, 265, 249, 250, 251, 252, 253, 254, 255, 256, 257, 258, 259, 260] (by decide +kernel) (by decide +kernel)) (goodIn_sub (fun _ h => List.mem_cons_of_mem _ (List.mem_append_right _ h)) (by decide +kernel))) (goodIn_sub (fun _ h => List.mem_cons_of_mem _ (List.mem_append_left _ (List.mem_append_left _ (List.mem_append_right _ h)))) (by decide +kernel))
set_option maxRecDepth 20000 in
theorem gL_sits_X4_seatParty : GoodIn wsL_sits (wsV RL 69 RX4 yX4_seatParty wsX4_seatParty) := goodIn_app (goodIn_of _ (by decide +kernel)) ggL_sits_X4_seatParty
theorem dL_sits_0 : decode cL_sits 0 = .ok (.iload_n 1, 1) := by decide +kernel
theorem dL_sits_1 : decode cL_sits 1 = .ok (.bipush 9, 2) := by decide +kernel
theorem dL_sits_3 : decode cL_sits 3 = .ok (.invokestatic 18, 3) := by decide +kernel
theorem dL_sits_6 : decode cL_sits 6 = .ok (.istore 6, 2) := by decide +kernel
theorem dL_sits_8 : decode cL_sits 8 = .ok (.iload_n 2, 1) := by decide +kernel
theorem dL_sits_9 : decode cL_sits 9 = .ok (.aload_n 3, 1) := by decide +kernel
theorem dL_sits_10 : decode cL_sits 10 = .ok (.iconst 0, 1) := by decide +kernel
theorem dL_sits_11 : decode cL_sits 11 = .ok (.iaload, 1) := by decide +kernel
theorem dL_sits_12 : decode cL_sits 12 = .ok (.invokestatic 18, 3) := by decide +kernel
theorem dL_sits_15 : decode cL_sits 15 = .ok (.istore 7, 2) := by decide +kernel
theorem dL_sits_17 : decode cL_sits 17 = .ok (.iload_n 2, 1) := by decide +kernel
theorem dL_sits_18 : decode cL_sits 18 = .ok (.iconst 4, 1) := by decide +kernel
theorem dL_sits_19 : decode cL_sits 19 = .ok (.ishr, 1) := by decide +kernel
theorem dL_sits_20 : decode cL_sits 20 = .ok (.aload 4, 2) := by decide +kernel
theorem dL_sits_22 : decode cL_sits 22 = .ok (.iconst 4, 1) := by decide +kernel
theorem dL_sits_23 : decode cL_sits 23 = .ok (.iload 7, 2) := by decide +kernel
theorem dL_sits_25 : decode cL_sits 25 = .ok (.imul, 1) := by decide +kernel
theorem dL_sits_26 : decode cL_sits 26 = .ok (.iconst 2, 1) := by decide +kernel
theorem dL_sits_27 : decode cL_sits 27 = .ok (.iadd, 1) := by decide +kernel
theorem dL_sits_28 : decode cL_sits 28 = .ok (.iaload, 1) := by decide +kernel
theorem dL_sits_29 : decode cL_sits 29 = .ok (.invokestatic 18, 3) := by decide +kernel
theorem dL_sits_32 : decode cL_sits 32 = .ok (.istore 8, 2) := by decide +kernel
theorem dL_sits_34 : decode cL_sits 34 = .ok (.iload 6, 2) := by decide +kernel
theorem dL_sits_36 : decode cL_sits 36 = .ok (.bipush 6, 2) := by decide +kernel
theorem dL_sits_38 : decode cL_sits 38 = .ok (.if_icmp .ge 117, 3) := by decide +kernel
theorem dL_sits_41 : decode cL_sits 41 = .ok (.aload 4, 2) := by decide +kernel
theorem dL_sits_43 : decode cL_sits 43 = .ok (.iconst 4, 1) := by decide +kernel
theorem dL_sits_44 : decode cL_sits 44 = .ok (.iload 7, 2) := by decide +kernel
theorem dL_sits_46 : decode cL_sits 46 = .ok (.imul, 1) := by decide +kernel
theorem dL_sits_47 : decode cL_sits 47 = .ok (.iconst 3, 1) := by decide +kernel
theorem dL_sits_48 : decode cL_sits 48 = .ok (.iadd, 1) := by decide +kernel
theorem dL_sits_49 : decode cL_sits 49 = .ok (.iaload, 1) := by decide +kernel
theorem dL_sits_50 : decode cL_sits 50 = .ok (.iload 8, 2) := by decide +kernel
theorem dL_sits_52 : decode cL_sits 52 = .ok (.ishr, 1) := by decide +kernel
theorem dL_sits_53 : decode cL_sits 53 = .ok (.iconst 1, 1) := by decide +kernel
theorem dL_sits_54 : decode cL_sits 54 = .ok (.iand, 1) := by decide +kernel
theorem dL_sits_55 : decode cL_sits 55 = .ok (.iconst 1, 1) := by decide +kernel
theorem dL_sits_56 : decode cL_sits 56 = .ok (.if_icmp .ne 7, 3) := by decide +kernel
theorem dL_sits_59 : decode cL_sits 59 = .ok (.iconst 1, 1) := by decide +kernel
theorem dL_sits_60 : decode cL_sits 60 = .ok (.goto 4, 3) := by decide +kernel
theorem dL_sits_63 : decode cL_sits 63 = .ok (.iconst 0, 1) := by decide +kernel
theorem dL_sits_64 : decode cL_sits 64 = .ok (.istore 9, 2) := by decide +kernel
theorem dL_sits_66 : decode cL_sits 66 = .ok (.aload 4, 2) := by decide +kernel
theorem dL_sits_68 : decode cL_sits 68 = .ok (.iconst 4, 1) := by decide +kernel
theorem dL_sits_69 : decode cL_sits 69 = .ok (.iload 7, 2) := by decide +kernel
theorem dL_sits_71 : decode cL_sits 71 = .ok (.imul, 1) := by decide +kernel
theorem dL_sits_72 : decode cL_sits 72 = .ok (.iconst 3, 1) := by decide +kernel
theorem dL_sits_73 : decode cL_sits 73 = .ok (.iadd, 1) := by decide +kernel
theorem dL_sits_74 : decode cL_sits 74 = .ok (.dup2, 1) := by decide +kernel
theorem dL_sits_75 : decode cL_sits 75 = .ok (.iaload, 1) := by decide +kernel
theorem dL_sits_76 : decode cL_sits 76 = .ok (.iconst 1, 1) := by decide +kernel
theorem dL_sits_77 : decode cL_sits 77 = .ok (.iload 8, 2) := by decide +kernel
theorem dL_sits_79 : decode cL_sits 79 = .ok (.ishl, 1) := by decide +kernel
theorem dL_sits_80 : decode cL_sits 80 = .ok (.ixor, 1) := by decide +kernel
theorem dL_sits_81 : decode cL_sits 81 = .ok (.iastore, 1) := by decide +kernel
theorem dL_sits_82 : decode cL_sits 82 = .ok (.aload_n 3, 1) := by decide +kernel
theorem dL_sits_83 : decode cL_sits 83 = .ok (.iconst 2, 1) := by decide +kernel
theorem dL_sits_84 : decode cL_sits 84 = .ok (.iaload, 1) := by decide +kernel
theorem dL_sits_85 : decode cL_sits 85 = .ok (.bipush 6, 2) := by decide +kernel
theorem dL_sits_87 : decode cL_sits 87 = .ok (.if_icmp .ge 10, 3) := by decide +kernel
theorem dL_sits_90 : decode cL_sits 90 = .ok (.aload_n 3, 1) := by decide +kernel
theorem dL_sits_91 : decode cL_sits 91 = .ok (.iconst 2, 1) := by decide +kernel
theorem dL_sits_92 : decode cL_sits 92 = .ok (.dup2, 1) := by decide +kernel
theorem dL_sits_93 : decode cL_sits 93 = .ok (.iaload, 1) := by decide +kernel
theorem dL_sits_94 : decode cL_sits 94 = .ok (.iconst 1, 1) := by decide +kernel
theorem dL_sits_95 : decode cL_sits 95 = .ok (.iadd, 1) := by decide +kernel
theorem dL_sits_96 : decode cL_sits 96 = .ok (.iastore, 1) := by decide +kernel
theorem dL_sits_97 : decode cL_sits 97 = .ok (.iload 9, 2) := by decide +kernel
theorem dL_sits_99 : decode cL_sits 99 = .ok (.ifCond .eq 29, 3) := by decide +kernel
theorem dL_sits_102 : decode cL_sits 102 = .ok (.aload_n 0, 1) := by decide +kernel
theorem dL_sits_103 : decode cL_sits 103 = .ok (.iload 7, 2) := by decide +kernel
theorem dL_sits_105 : decode cL_sits 105 = .ok (.iload 8, 2) := by decide +kernel
theorem dL_sits_107 : decode cL_sits 107 = .ok (.invokevirtual 48, 3) := by decide +kernel
theorem dL_sits_110 : decode cL_sits 110 = .ok (.aload_n 3, 1) := by decide +kernel
theorem dL_sits_111 : decode cL_sits 111 = .ok (.aload 4, 2) := by decide +kernel
theorem dL_sits_113 : decode cL_sits 113 = .ok (.iconst 1, 1) := by decide +kernel
theorem dL_sits_114 : decode cL_sits 114 = .ok (.invokestatic 32, 3) := by decide +kernel
theorem dL_sits_117 : decode cL_sits 117 = .ok (.if_icmp .ne 7, 3) := by decide +kernel
theorem dL_sits_120 : decode cL_sits 120 = .ok (.iconst 1, 1) := by decide +kernel
theorem dL_sits_121 : decode cL_sits 121 = .ok (.goto 33, 3) := by decide +kernel
theorem dL_sits_124 : decode cL_sits 124 = .ok (.iconst 0, 1) := by decide +kernel
theorem dL_sits_125 : decode cL_sits 125 = .ok (.goto 29, 3) := by decide +kernel
theorem dL_sits_128 : decode cL_sits 128 = .ok (.aload_n 0, 1) := by decide +kernel
theorem dL_sits_129 : decode cL_sits 129 = .ok (.iload 7, 2) := by decide +kernel
theorem dL_sits_131 : decode cL_sits 131 = .ok (.iload 8, 2) := by decide +kernel
theorem dL_sits_133 : decode cL_sits 133 = .ok (.invokevirtual 51, 3) := by decide +kernel
theorem dL_sits_136 : decode cL_sits 136 = .ok (.aload_n 3, 1) := by decide +kernel
theorem dL_sits_137 : decode cL_sits 137 = .ok (.aload 4, 2) := by decide +kernel
theorem dL_sits_139 : decode cL_sits 139 = .ok (.iload 7, 2) := by decide +kernel
theorem dL_sits_141 : decode cL_sits 141 = .ok (.iload 8, 2) := by decide +kernel
theorem dL_sits_143 : decode cL_sits 143 = .ok (.invokestatic 54, 3) := by decide +kernel
theorem dL_sits_146 : decode cL_sits 146 = .ok (.if_icmp .ne 7, 3) := by decide +kernel
theorem dL_sits_149 : decode cL_sits 149 = .ok (.iconst 1, 1) := by decide +kernel
theorem dL_sits_150 : decode cL_sits 150 = .ok (.goto 4, 3) := by decide +kernel
theorem dL_sits_153 : decode cL_sits 153 = .ok (.iconst 0, 1) := by decide +kernel
theorem dL_sits_154 : decode cL_sits 154 = .ok (.ireturn, 1) := by decide +kernel
theorem dL_sits_155 : decode cL_sits 155 = .ok (.iload 6, 2) := by decide +kernel
theorem dL_sits_157 : decode cL_sits 157 = .ok (.bipush 6, 2) := by decide +kernel
theorem dL_sits_159 : decode cL_sits 159 = .ok (.if_icmp .ne 80, 3) := by decide +kernel
theorem dL_sits_162 : decode cL_sits 162 = .ok (.iload_n 2, 1) := by decide +kernel
theorem dL_sits_163 : decode cL_sits 163 = .ok (.bipush 8, 2) := by decide +kernel
theorem dL_sits_165 : decode cL_sits 165 = .ok (.ishr, 1) := by decide +kernel
theorem dL_sits_166 : decode cL_sits 166 = .ok (.iconst 3, 1) := by decide +kernel
theorem dL_sits_167 : decode cL_sits 167 = .ok (.invokestatic 18, 3) := by decide +kernel
theorem dL_sits_170 : decode cL_sits 170 = .ok (.ifCond .ne 69, 3) := by decide +kernel
theorem dL_sits_173 : decode cL_sits 173 = .ok (.aload_n 3, 1) := by decide +kernel
theorem dL_sits_174 : decode cL_sits 174 = .ok (.aload 4, 2) := by decide +kernel
theorem dL_sits_176 : decode cL_sits 176 = .ok (.iconst 1, 1) := by decide +kernel
theorem dL_sits_177 : decode cL_sits 177 = .ok (.invokestatic 32, 3) := by decide +kernel
theorem dL_sits_180 : decode cL_sits 180 = .ok (.istore 9, 2) := by decide +kernel
theorem dL_sits_182 : decode cL_sits 182 = .ok (.iconst 0, 1) := by decide +kernel
theorem dL_sits_183 : decode cL_sits 183 = .ok (.istore 10, 2) := by decide +kernel
theorem dL_sits_185 : decode cL_sits 185 = .ok (.iload 10, 2) := by decide +kernel
theorem dL_sits_187 : decode cL_sits 187 = .ok (.aload_n 3, 1) := by decide +kernel
theorem dL_sits_188 : decode cL_sits 188 = .ok (.iconst 0, 1) := by decide +kernel
theorem dL_sits_189 : decode cL_sits 189 = .ok (.iaload, 1) := by decide +kernel
theorem dL_sits_190 : decode cL_sits 190 = .ok (.if_icmp .ge 19, 3) := by decide +kernel
theorem dL_sits_193 : decode cL_sits 193 = .ok (.aload 4, 2) := by decide +kernel
theorem dL_sits_195 : decode cL_sits 195 = .ok (.iconst 4, 1) := by decide +kernel
theorem dL_sits_196 : decode cL_sits 196 = .ok (.iload 10, 2) := by decide +kernel
theorem dL_sits_198 : decode cL_sits 198 = .ok (.imul, 1) := by decide +kernel
theorem dL_sits_199 : decode cL_sits 199 = .ok (.iconst 3, 1) := by decide +kernel
theorem dL_sits_200 : decode cL_sits 200 = .ok (.iadd, 1) := by decide +kernel
theorem dL_sits_201 : decode cL_sits 201 = .ok (.iconst 0, 1) := by decide +kernel
theorem dL_sits_202 : decode cL_sits 202 = .ok (.iastore, 1) := by decide +kernel
theorem dL_sits_203 : decode cL_sits 203 = .ok (.iinc 10 1, 3) := by decide +kernel
theorem dL_sits_206 : decode cL_sits 206 = .ok (.goto (-21), 3) := by decide +kernel
theorem dL_sits_209 : decode cL_sits 209 = .ok (.aload_n 3, 1) := by decide +kernel
theorem dL_sits_210 : decode cL_sits 210 = .ok (.iconst 2, 1) := by decide +kernel
theorem dL_sits_211 : decode cL_sits 211 = .ok (.iaload, 1) := by decide +kernel
theorem dL_sits_212 : decode cL_sits 212 = .ok (.bipush 6, 2) := by decide +kernel
theorem dL_sits_214 : decode cL_sits 214 = .ok (.if_icmp .ge 10, 3) := by decide +kernel
theorem dL_sits_217 : decode cL_sits 217 = .ok (.aload_n 3, 1) := by decide +kernel
theorem dL_sits_218 : decode cL_sits 218 = .ok (.iconst 2, 1) := by decide +kernel
theorem dL_sits_219 : decode cL_sits 219 = .ok (.dup2, 1) := by decide +kernel
theorem dL_sits_220 : decode cL_sits 220 = .ok (.iaload, 1) := by decide +kernel
theorem dL_sits_221 : decode cL_sits 221 = .ok (.iconst 1, 1) := by decide +kernel
theorem dL_sits_222 : decode cL_sits 222 = .ok (.iadd, 1) := by decide +kernel
theorem dL_sits_223 : decode cL_sits 223 = .ok (.iastore, 1) := by decide +kernel
theorem dL_sits_224 : decode cL_sits 224 = .ok (.aload_n 0, 1) := by decide +kernel
theorem dL_sits_225 : decode cL_sits 225 = .ok (.invokevirtual 58, 3) := by decide +kernel
theorem dL_sits_228 : decode cL_sits 228 = .ok (.iload 9, 2) := by decide +kernel
theorem dL_sits_230 : decode cL_sits 230 = .ok (.if_icmp .ne 7, 3) := by decide +kernel
theorem dL_sits_233 : decode cL_sits 233 = .ok (.iconst 1, 1) := by decide +kernel
theorem dL_sits_234 : decode cL_sits 234 = .ok (.goto 4, 3) := by decide +kernel
theorem dL_sits_237 : decode cL_sits 237 = .ok (.iconst 0, 1) := by decide +kernel
theorem dL_sits_238 : decode cL_sits 238 = .ok (.ireturn, 1) := by decide +kernel
theorem dL_sits_239 : decode cL_sits 239 = .ok (.iconst 1, 1) := by decide +kernel
theorem dL_sits_240 : decode cL_sits 240 = .ok (.iload_n 2, 1) := by decide +kernel
theorem dL_sits_241 : decode cL_sits 241 = .ok (.iconst 4, 1) := by decide +kernel
theorem dL_sits_242 : decode cL_sits 242 = .ok (.ishr, 1) := by decide +kernel
theorem dL_sits_243 : decode cL_sits 243 = .ok (.iconst 4, 1) := by decide +kernel
theorem dL_sits_244 : decode cL_sits 244 = .ok (.invokestatic 18, 3) := by decide +kernel
theorem dL_sits_247 : decode cL_sits 247 = .ok (.iadd, 1) := by decide +kernel
theorem dL_sits_248 : decode cL_sits 248 = .ok (.istore 9, 2) := by decide +kernel
theorem dL_sits_250 : decode cL_sits 250 = .ok (.iconst (-1), 1) := by decide +kernel
theorem dL_sits_251 : decode cL_sits 251 = .ok (.istore 10, 2) := by decide +kernel
theorem dL_sits_253 : decode cL_sits 253 = .ok (.iconst 0, 1) := by decide +kernel
theorem dL_sits_254 : decode cL_sits 254 = .ok (.istore 11, 2) := by decide +kernel
theorem dL_sits_256 : decode cL_sits 256 = .ok (.iconst 0, 1) := by decide +kernel
theorem dL_sits_257 : decode cL_sits 257 = .ok (.istore 12, 2) := by decide +kernel
theorem dL_sits_259 : decode cL_sits 259 = .ok (.iload 12, 2) := by decide +kernel
theorem dL_sits_261 : decode cL_sits 261 = .ok (.aload_n 3, 1) := by decide +kernel
theorem dL_sits_262 : decode cL_sits 262 = .ok (.iconst 0, 1) := by decide +kernel
theorem dL_sits_263 : decode cL_sits 263 = .ok (.iaload, 1) := by decide +kernel
theorem dL_sits_264 : decode cL_sits 264 = .ok (.if_icmp .ge 141, 3) := by decide +kernel
theorem dL_sits_267 : decode cL_sits 267 = .ok (.iconst 0, 1) := by decide +kernel
theorem dL_sits_268 : decode cL_sits 268 = .ok (.istore 13, 2) := by decide +kernel
theorem dL_sits_270 : decode cL_sits 270 = .ok (.iload 13, 2) := by decide +kernel
theorem dL_sits_272 : decode cL_sits 272 = .ok (.iload 9, 2) := by decide +kernel
theorem dL_sits_274 : decode cL_sits 274 = .ok (.iadd, 1) := by decide +kernel
theorem dL_sits_275 : decode cL_sits 275 = .ok (.aload 4, 2) := by decide +kernel
theorem dL_sits_277 : decode cL_sits 277 = .ok (.iconst 4, 1) := by decide +kernel
theorem dL_sits_278 : decode cL_sits 278 = .ok (.iload 12, 2) := by decide +kernel
theorem dL_sits_280 : decode cL_sits 280 = .ok (.imul, 1) := by decide +kernel
theorem dL_sits_281 : decode cL_sits 281 = .ok (.iconst 2, 1) := by decide +kernel
theorem dL_sits_282 : decode cL_sits 282 = .ok (.iadd, 1) := by decide +kernel
theorem dL_sits_283 : decode cL_sits 283 = .ok (.iaload, 1) := by decide +kernel
theorem dL_sits_284 : decode cL_sits 284 = .ok (.if_icmp .gt 115, 3) := by decide +kernel
theorem dL_sits_287 : decode cL_sits 287 = .ok (.iconst 0, 1) := by decide +kernel
theorem dL_sits_288 : decode cL_sits 288 = .ok (.istore 14, 2) := by decide +kernel
theorem dL_sits_290 : decode cL_sits 290 = .ok (.iconst 1, 1) := by decide +kernel
theorem dL_sits_291 : decode cL_sits 291 = .ok (.istore 15, 2) := by decide +kernel
theorem dL_sits_293 : decode cL_sits 293 = .ok (.iload 13, 2) := by decide +kernel
theorem dL_sits_295 : decode cL_sits 295 = .ok (.istore 16, 2) := by decide +kernel
theorem dL_sits_297 : decode cL_sits 297 = .ok (.iload 16, 2) := by decide +kernel
theorem dL_sits_299 : decode cL_sits 299 = .ok (.iload 13, 2) := by decide +kernel
theorem dL_sits_301 : decode cL_sits 301 = .ok (.iload 9, 2) := by decide +kernel
theorem dL_sits_303 : decode cL_sits 303 = .ok (.iadd, 1) := by decide +kernel
theorem dL_sits_304 : decode cL_sits 304 = .ok (.if_icmp .ge 58, 3) := by decide +kernel
theorem dL_sits_307 : decode cL_sits 307 = .ok (.aload 4, 2) := by decide +kernel
theorem dL_sits_309 : decode cL_sits 309 = .ok (.iconst 4, 1) := by decide +kernel
theorem dL_sits_310 : decode cL_sits 310 = .ok (.iload 12, 2) := by decide +kernel
theorem dL_sits_312 : decode cL_sits 312 = .ok (.imul, 1) := by decide +kernel
theorem dL_sits_313 : decode cL_sits 313 = .ok (.iconst 3, 1) := by decide +kernel
theorem dL_sits_314 : decode cL_sits 314 = .ok (.iadd, 1) := by decide +kernel
theorem dL_sits_315 : decode cL_sits 315 = .ok (.iaload, 1) := by decide +kernel
theorem dL_sits_316 : decode cL_sits 316 = .ok (.iload 16, 2) := by decide +kernel
theorem dL_sits_318 : decode cL_sits 318 = .ok (.ishr, 1) := by decide +kernel
theorem dL_sits_319 : decode cL_sits 319 = .ok (.iconst 1, 1) := by decide +kernel
theorem dL_sits_320 : decode cL_sits 320 = .ok (.iand, 1) := by decide +kernel
theorem dL_sits_321 : decode cL_sits 321 = .ok (.iconst 1, 1) := by decide +kernel
theorem dL_sits_322 : decode cL_sits 322 = .ok (.if_icmp .ne 6, 3) := by decide +kernel
theorem dL_sits_325 : decode cL_sits 325 = .ok (.iconst 0, 1) := by decide +kernel
theorem dL_sits_326 : decode cL_sits 326 = .ok (.istore 15, 2) := by decide +kernel
theorem dL_sits_328 : decode cL_sits 328 = .ok (.iload 14, 2) := by decide +kernel
theorem dL_sits_330 : decode cL_sits 330 = .ok (.aload_n 3, 1) := by decide +kernel
theorem dL_sits_331 : decode cL_sits 331 = .ok (.aload 4, 2) := by decide +kernel
theorem dL_sits_333 : decode cL_sits 333 = .ok (.iload 12, 2) := by decide +kernel
theorem dL_sits_335 : decode cL_sits 335 = .ok (.iload 16, 2) := by decide +kernel
theorem dL_sits_337 : decode cL_sits 337 = .ok (.invokestatic 54, 3) := by decide +kernel
theorem dL_sits_340 : decode cL_sits 340 = .ok (.aload_n 3, 1) := by decide +kernel
theorem dL_sits_341 : decode cL_sits 341 = .ok (.aload 4, 2) := by decide +kernel
theorem dL_sits_343 : decode cL_sits 343 = .ok (.aload 5, 2) := by decide +kernel
theorem dL_sits_345 : decode cL_sits 345 = .ok (.iload 12, 2) := by decide +kernel
theorem dL_sits_347 : decode cL_sits 347 = .ok (.iload 16, 2) := by decide +kernel
theorem dL_sits_349 : decode cL_sits 349 = .ok (.invokestatic 62, 3) := by decide +kernel
theorem dL_sits_352 : decode cL_sits 352 = .ok (.iadd, 1) := by decide +kernel
theorem dL_sits_353 : decode cL_sits 353 = .ok (.iadd, 1) := by decide +kernel
theorem dL_sits_354 : decode cL_sits 354 = .ok (.istore 14, 2) := by decide +kernel
theorem dL_sits_356 : decode cL_sits 356 = .ok (.iinc 16 1, 3) := by decide +kernel
theorem dL_sits_359 : decode cL_sits 359 = .ok (.goto (-62), 3) := by decide +kernel
theorem dL_sits_362 : decode cL_sits 362 = .ok (.iload 15, 2) := by decide +kernel
theorem dL_sits_364 : decode cL_sits 364 = .ok (.ifCond .eq 29, 3) := by decide +kernel
theorem dL_sits_367 : decode cL_sits 367 = .ok (.iload 10, 2) := by decide +kernel
theorem dL_sits_369 : decode cL_sits 369 = .ok (.ifCond .lt 10, 3) := by decide +kernel
theorem dL_sits_372 : decode cL_sits 372 = .ok (.iload 14, 2) := by decide +kernel
theorem dL_sits_374 : decode cL_sits 374 = .ok (.iload 11, 2) := by decide +kernel
theorem dL_sits_376 : decode cL_sits 376 = .ok (.if_icmp .ge 17, 3) := by decide +kernel
theorem dL_sits_379 : decode cL_sits 379 = .ok (.bipush 100, 2) := by decide +kernel
theorem dL_sits_381 : decode cL_sits 381 = .ok (.iload 12, 2) := by decide +kernel
theorem dL_sits_383 : decode cL_sits 383 = .ok (.imul, 1) := by decide +kernel
theorem dL_sits_384 : decode cL_sits 384 = .ok (.iload 13, 2) := by decide +kernel
theorem dL_sits_386 : decode cL_sits 386 = .ok (.iadd, 1) := by decide +kernel
theorem dL_sits_387 : decode cL_sits 387 = .ok (.istore 10, 2) := by decide +kernel
theorem dL_sits_389 : decode cL_sits 389 = .ok (.iload 14, 2) := by decide +kernel
theorem dL_sits_391 : decode cL_sits 391 = .ok (.istore 11, 2) := by decide +kernel
theorem dL_sits_393 : decode cL_sits 393 = .ok (.iinc 13 1, 3) := by decide +kernel
theorem dL_sits_396 : decode cL_sits 396 = .ok (.goto (-126), 3) := by decide +kernel
theorem dL_sits_399 : decode cL_sits 399 = .ok (.iinc 12 1, 3) := by decide +kernel
theorem dL_sits_402 : decode cL_sits 402 = .ok (.goto (-143), 3) := by decide +kernel
theorem dL_sits_405 : decode cL_sits 405 = .ok (.iload 10, 2) := by decide +kernel
theorem dL_sits_407 : decode cL_sits 407 = .ok (.ifCond .ge 20, 3) := by decide +kernel
theorem dL_sits_410 : decode cL_sits 410 = .ok (.aload_n 0, 1) := by decide +kernel
theorem dL_sits_411 : decode cL_sits 411 = .ok (.bipush 7, 2) := by decide +kernel
theorem dL_sits_413 : decode cL_sits 413 = .ok (.invokevirtual 66, 3) := by decide +kernel
theorem dL_sits_416 : decode cL_sits 416 = .ok (.iload 9, 2) := by decide +kernel
theorem dL_sits_418 : decode cL_sits 418 = .ok (.if_icmp .ge 7, 3) := by decide +kernel
theorem dL_sits_421 : decode cL_sits 421 = .ok (.iconst 1, 1) := by decide +kernel
theorem dL_sits_422 : decode cL_sits 422 = .ok (.goto 4, 3) := by decide +kernel
theorem dL_sits_425 : decode cL_sits 425 = .ok (.iconst 0, 1) := by decide +kernel
theorem dL_sits_426 : decode cL_sits 426 = .ok (.ireturn, 1) := by decide +kernel
theorem dL_sits_427 : decode cL_sits 427 = .ok (.iconst 0, 1) := by decide +kernel
theorem dL_sits_428 : decode cL_sits 428 = .ok (.istore 12, 2) := by decide +kernel
theorem dL_sits_430 : decode cL_sits 430 = .ok (.iload 12, 2) := by decide +kernel
theorem dL_sits_432 : decode cL_sits 432 = .ok (.iload 9, 2) := by decide +kernel
theorem dL_sits_434 : decode cL_sits 434 = .ok (.if_icmp .ge 34, 3) := by decide +kernel
theorem dL_sits_437 : decode cL_sits 437 = .ok (.aload 4, 2) := by decide +kernel
theorem dL_sits_439 : decode cL_sits 439 = .ok (.iconst 4, 1) := by decide +kernel
theorem dL_sits_440 : decode cL_sits 440 = .ok (.iload 10, 2) := by decide +kernel
theorem dL_sits_442 : decode cL_sits 442 = .ok (.bipush 100, 2) := by decide +kernel
theorem dL_sits_444 : decode cL_sits 444 = .ok (.idiv, 1) := by decide +kernel
theorem dL_sits_445 : decode cL_sits 445 = .ok (.imul, 1) := by decide +kernel
theorem dL_sits_446 : decode cL_sits 446 = .ok (.iconst 3, 1) := by decide +kernel
theorem dL_sits_447 : decode cL_sits 447 = .ok (.iadd, 1) := by decide +kernel
theorem dL_sits_448 : decode cL_sits 448 = .ok (.dup2, 1) := by decide +kernel
theorem dL_sits_449 : decode cL_sits 449 = .ok (.iaload, 1) := by decide +kernel
theorem dL_sits_450 : decode cL_sits 450 = .ok (.iconst 1, 1) := by decide +kernel
theorem dL_sits_451 : decode cL_sits 451 = .ok (.iload 10, 2) := by decide +kernel
theorem dL_sits_453 : decode cL_sits 453 = .ok (.bipush 100, 2) := by decide +kernel
theorem dL_sits_455 : decode cL_sits 455 = .ok (.irem, 1) := by decide +kernel
theorem dL_sits_456 : decode cL_sits 456 = .ok (.iload 12, 2) := by decide +kernel
theorem dL_sits_458 : decode cL_sits 458 = .ok (.iadd, 1) := by decide +kernel
theorem dL_sits_459 : decode cL_sits 459 = .ok (.ishl, 1) := by decide +kernel
theorem dL_sits_460 : decode cL_sits 460 = .ok (.ior, 1) := by decide +kernel
theorem dL_sits_461 : decode cL_sits 461 = .ok (.iastore, 1) := by decide +kernel
theorem dL_sits_462 : decode cL_sits 462 = .ok (.iinc 12 1, 3) := by decide +kernel
theorem dL_sits_465 : decode cL_sits 465 = .ok (.goto (-35), 3) := by decide +kernel
theorem dL_sits_468 : decode cL_sits 468 = .ok (.aload_n 3, 1) := by decide +kernel
theorem dL_sits_469 : decode cL_sits 469 = .ok (.iconst 2, 1) := by decide +kernel
theorem dL_sits_470 : decode cL_sits 470 = .ok (.iaload, 1) := by decide +kernel
theorem dL_sits_471 : decode cL_sits 471 = .ok (.bipush 6, 2) := by decide +kernel
theorem dL_sits_473 : decode cL_sits 473 = .ok (.if_icmp .ge 10, 3) := by decide +kernel
theorem dL_sits_476 : decode cL_sits 476 = .ok (.aload_n 3, 1) := by decide +kernel
theorem dL_sits_477 : decode cL_sits 477 = .ok (.iconst 2, 1) := by decide +kernel
theorem dL_sits_478 : decode cL_sits 478 = .ok (.dup2, 1) := by decide +kernel
theorem dL_sits_479 : decode cL_sits 479 = .ok (.iaload, 1) := by decide +kernel
theorem dL_sits_480 : decode cL_sits 480 = .ok (.iconst 1, 1) := by decide +kernel
theorem dL_sits_481 : decode cL_sits 481 = .ok (.iadd, 1) := by decide +kernel
theorem dL_sits_482 : decode cL_sits 482 = .ok (.iastore, 1) := by decide +kernel
theorem dL_sits_483 : decode cL_sits 483 = .ok (.aload_n 0, 1) := by decide +kernel
theorem dL_sits_484 : decode cL_sits 484 = .ok (.iload 9, 2) := by decide +kernel
theorem dL_sits_486 : decode cL_sits 486 = .ok (.invokevirtual 69, 3) := by decide +kernel
theorem dL_sits_489 : decode cL_sits 489 = .ok (.iload 10, 2) := by decide +kernel
theorem dL_sits_491 : decode cL_sits 491 = .ok (.if_icmp .ne 7, 3) := by decide +kernel
theorem dL_sits_494 : decode cL_sits 494 = .ok (.iconst 1, 1) := by decide +kernel
theorem dL_sits_495 : decode cL_sits 495 = .ok (.goto 4, 3) := by decide +kernel
theorem dL_sits_498 : decode cL_sits 498 = .ok (.iconst 0, 1) := by decide +kernel
theorem dL_sits_499 : decode cL_sits 499 = .ok (.ireturn, 1) := by decide +kernel
