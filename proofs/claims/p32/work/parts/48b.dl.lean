theorem goodIn_cons {big ws : List Cond} {c : Cond} (h : c ∈ big) (hg : goodWord c = true) (hr : GoodIn big ws) : GoodIn big (c :: ws) := fun w hw => (List.mem_cons.mp hw).elim (fun e => by subst e; exact ⟨h, good_of_word hg⟩) (hr w)
set_option maxRecDepth 20000 in
theorem ggL_agree_X4_row : GoodIn wsL_agree wsX4_row := goodIn_ca (goodIn_ca (goodIn_r _ [5, 6, 7, 8, 9, 4, 10, 11, 12, 13, 14, 15, 16, 17, 18, 19, 20, 21, 22, 23, 24, 25, 26, 27, 28, 29, 30, 31, 32, 33, 34, 35, 36, 37, 38, 39, 40, 41, 42, 43, 44, 45, 46, 47, 48, 49, 50, 51, 52, 53, 54, 55, 56, 57, 58, 59, 60, 61, 62, 63, 64, 65, 66, 67, 68, 69, 70, 71, 72, 73, 74, 75, 76, 77, 78, 79, 80, 81, 82, 83, 84, 85, 86, 87, 88, 89, 90, 91, 92, 93, 94, 95, 96, 97, 98, 99, 100, 101, 102, 103, 104, 105, 106, 107, 108, 109, 110, 111, 112, 113, 114, 115, 116, 220, 221, 222, 223, 224, 225, 226, 227, 228, 229, 230, 231, 232, 233, 234, 235, 236, 237, 238, 239] (by decide +kernel) (by decide +kernel)) (goodIn_sub (fun _ h => List.mem_cons_of_mem _ (List.mem_append_left _ (List.mem_append_right _ h))) (by decide +kernel))) (goodIn_sub (fun _ h => List.mem_cons_of_mem _ (List.mem_append_right _ h)) (by decide +kernel))
set_option maxRecDepth 20000 in
theorem gL_agree_X4_row : GoodIn wsL_agree (wsV RL 72 RX4 yX4_row wsX4_row) := goodIn_app (goodIn_of _ (by decide +kernel)) ggL_agree_X4_row
set_option maxRecDepth 20000 in
theorem ggL_agree_L_people : GoodIn wsL_agree wsL_people := goodIn_r _ [120, 121, 122, 119, 123, 124, 125, 126] (by decide +kernel) (by decide +kernel)
set_option maxRecDepth 20000 in
theorem gL_agree_L_people : GoodIn wsL_agree (va_wsS RL 54 yL_people wsL_people) := goodIn_app (goodIn_of _ (by decide +kernel)) ggL_agree_L_people
set_option maxRecDepth 20000 in
theorem ggL_agree_L_columns : GoodIn wsL_agree wsL_columns := goodIn_r _ [129, 124, 125, 119, 126] (by decide +kernel) (by decide +kernel)
set_option maxRecDepth 20000 in
theorem gL_agree_L_columns : GoodIn wsL_agree (va_wsS RL 62 yL_columns wsL_columns) := goodIn_app (goodIn_of _ (by decide +kernel)) ggL_agree_L_columns
set_option maxRecDepth 20000 in
theorem ggL_agree_X4_seat : GoodIn wsL_agree wsX4_seat := goodIn_ca (goodIn_ca (goodIn_r _ [133, 6, 134, 135, 136, 4, 137, 11, 12, 13, 97, 7, 8, 9, 10, 14, 15, 16, 17, 18, 19, 20, 21, 22, 23, 24, 25, 26, 27, 28, 29, 30, 31, 32, 33, 34, 35, 36, 37, 38, 39, 40, 41, 42, 43, 44, 45, 46, 47, 48, 49, 50, 51, 52, 53, 54, 55, 56, 57, 58, 59, 60, 61, 62, 63, 64, 65, 66, 67, 68, 69, 70, 71, 72, 73, 74, 75, 76, 77, 78, 79, 80, 81, 82, 83, 84, 85, 86, 87, 88, 89, 90, 138, 139, 140, 141, 142, 143, 144, 145, 146, 147, 114, 115, 116, 148, 149, 150, 151, 152, 153, 154, 155, 156, 157, 220, 221, 222, 223, 224, 225, 226, 227, 228, 229, 230, 231, 232, 233, 234, 235, 236, 237, 238, 239] (by decide +kernel) (by decide +kernel)) (goodIn_sub (fun _ h => List.mem_cons_of_mem _ (List.mem_append_left _ (List.mem_append_right _ h))) (by decide +kernel))) (goodIn_sub (fun _ h => List.mem_cons_of_mem _ (List.mem_append_right _ h)) (by decide +kernel))
set_option maxRecDepth 20000 in
theorem gL_agree_X4_seat : GoodIn wsL_agree (wsV RL 75 RX4 yX4_seat wsX4_seat) := goodIn_app (goodIn_of _ (by decide +kernel)) ggL_agree_X4_seat
set_option maxRecDepth 20000 in
theorem ggL_agree_L_side : GoodIn wsL_agree wsL_side := goodIn_r _ [126] (by decide +kernel) (by decide +kernel)
set_option maxRecDepth 20000 in
theorem gL_agree_L_side : GoodIn wsL_agree (va_wsS RL 8 yL_side wsL_side) := goodIn_app (goodIn_of _ (by decide +kernel)) ggL_agree_L_side
set_option maxRecDepth 20000 in
theorem ggL_agree_X4_column : GoodIn wsL_agree wsX4_column := goodIn_ca (goodIn_ca (goodIn_r _ [161, 162, 163, 164, 4, 165, 11, 12, 13, 166, 15, 16, 17, 18, 19, 167, 168, 169, 170, 171, 172, 173, 174, 175, 176, 38, 177, 152, 40, 74, 75, 76, 77, 50, 78, 79, 51, 52, 53, 54, 80, 55, 56, 57, 58, 220, 221, 222, 223, 224, 225, 226, 227, 228, 229, 230, 231, 232, 233, 234] (by decide +kernel) (by decide +kernel)) (goodIn_sub (fun _ h => List.mem_cons_of_mem _ (List.mem_append_left _ (List.mem_append_right _ h))) (by decide +kernel))) (goodIn_sub (fun _ h => List.mem_cons_of_mem _ (List.mem_append_right _ h)) (by decide +kernel))
set_option maxRecDepth 20000 in
theorem gL_agree_X4_column : GoodIn wsL_agree (wsV RL 78 RX4 yX4_column wsX4_column) := goodIn_app (goodIn_of _ (by decide +kernel)) ggL_agree_X4_column
set_option maxRecDepth 20000 in
theorem ggL_agree_X4_count : GoodIn wsL_agree wsX4_count := goodIn_ca (goodIn_r _ [181, 6, 15, 16, 4, 17, 18, 19, 20, 21, 22, 23, 24, 25, 26, 27, 28, 29, 30, 31, 32, 33, 34, 35, 36, 37, 38, 39, 40, 41, 42, 43, 44, 45, 46, 47, 48, 49, 50, 51, 52, 53, 54, 55, 56, 57, 58, 59, 60, 61, 62, 63, 64, 65, 66, 67, 68, 69, 70, 71, 72, 73, 74, 75, 76, 77, 78, 79, 80, 81, 82, 83, 84, 85, 86, 87, 88, 89, 90, 182, 183, 184, 185, 13, 14, 166, 186, 187, 188, 189, 190, 191, 152, 192, 193, 194, 195, 196, 99, 100, 101, 102, 103, 104, 105, 106, 107, 108, 197, 198, 199, 200, 201, 110, 111, 112, 113, 114, 115, 116, 202, 203, 204, 205, 157, 206, 207, 208, 209, 210, 211, 212, 213, 214, 215, 216, 220, 221, 222, 223, 224, 235, 236, 237, 238, 239, 225, 226, 227, 228, 229, 230, 231, 232, 233, 234, 240, 241] (by decide +kernel) (by decide +kernel)) (goodIn_sub (fun _ h => List.mem_cons_of_mem _ (List.mem_append_right _ h)) (by decide +kernel))
set_option maxRecDepth 20000 in
theorem gL_agree_X4_count : GoodIn wsL_agree (wsV RL 66 RX4 yX4_count wsX4_count) := goodIn_app (goodIn_of _ (by decide +kernel)) ggL_agree_X4_count
set_option maxRecDepth 20000 in
theorem ggL_agree_L_all : GoodIn wsL_agree wsL_all := goodIn_r _ [219] (by decide +kernel) (by decide +kernel)
set_option maxRecDepth 20000 in
theorem gL_agree_L_all : GoodIn wsL_agree (va_wsS RL 32 yL_all wsL_all) := goodIn_app (goodIn_of _ (by decide +kernel)) ggL_agree_L_all
theorem dL_agree_0 : decode cL_agree 0 = .ok (.iconst 0, 1) := by decide +kernel
theorem dL_agree_1 : decode cL_agree 1 = .ok (.istore 4, 2) := by decide +kernel
theorem dL_agree_3 : decode cL_agree 3 = .ok (.iconst 0, 1) := by decide +kernel
theorem dL_agree_4 : decode cL_agree 4 = .ok (.istore 5, 2) := by decide +kernel
theorem dL_agree_6 : decode cL_agree 6 = .ok (.iconst 0, 1) := by decide +kernel
theorem dL_agree_7 : decode cL_agree 7 = .ok (.istore 6, 2) := by decide +kernel
theorem dL_agree_9 : decode cL_agree 9 = .ok (.iconst 0, 1) := by decide +kernel
theorem dL_agree_10 : decode cL_agree 10 = .ok (.istore 7, 2) := by decide +kernel
theorem dL_agree_12 : decode cL_agree 12 = .ok (.iload 7, 2) := by decide +kernel
theorem dL_agree_14 : decode cL_agree 14 = .ok (.aload_n 1, 1) := by decide +kernel
theorem dL_agree_15 : decode cL_agree 15 = .ok (.iconst 0, 1) := by decide +kernel
theorem dL_agree_16 : decode cL_agree 16 = .ok (.iaload, 1) := by decide +kernel
theorem dL_agree_17 : decode cL_agree 17 = .ok (.if_icmp .ge 211, 3) := by decide +kernel
theorem dL_agree_20 : decode cL_agree 20 = .ok (.iconst 0, 1) := by decide +kernel
theorem dL_agree_21 : decode cL_agree 21 = .ok (.istore 8, 2) := by decide +kernel
theorem dL_agree_23 : decode cL_agree 23 = .ok (.iload 8, 2) := by decide +kernel
theorem dL_agree_25 : decode cL_agree 25 = .ok (.iconst 3, 1) := by decide +kernel
theorem dL_agree_26 : decode cL_agree 26 = .ok (.if_icmp .ge 31, 3) := by decide +kernel
theorem dL_agree_29 : decode cL_agree 29 = .ok (.aload_n 0, 1) := by decide +kernel
theorem dL_agree_30 : decode cL_agree 30 = .ok (.iload 7, 2) := by decide +kernel
theorem dL_agree_32 : decode cL_agree 32 = .ok (.iload 8, 2) := by decide +kernel
theorem dL_agree_34 : decode cL_agree 34 = .ok (.invokevirtual 72, 3) := by decide +kernel
theorem dL_agree_37 : decode cL_agree 37 = .ok (.aload_n 2, 1) := by decide +kernel
theorem dL_agree_38 : decode cL_agree 38 = .ok (.iconst 4, 1) := by decide +kernel
theorem dL_agree_39 : decode cL_agree 39 = .ok (.iload 7, 2) := by decide +kernel
theorem dL_agree_41 : decode cL_agree 41 = .ok (.imul, 1) := by decide +kernel
theorem dL_agree_42 : decode cL_agree 42 = .ok (.iload 8, 2) := by decide +kernel
theorem dL_agree_44 : decode cL_agree 44 = .ok (.iadd, 1) := by decide +kernel
theorem dL_agree_45 : decode cL_agree 45 = .ok (.iaload, 1) := by decide +kernel
theorem dL_agree_46 : decode cL_agree 46 = .ok (.if_icmp .eq 5, 3) := by decide +kernel
theorem dL_agree_49 : decode cL_agree 49 = .ok (.iconst 0, 1) := by decide +kernel
theorem dL_agree_50 : decode cL_agree 50 = .ok (.ireturn, 1) := by decide +kernel
theorem dL_agree_51 : decode cL_agree 51 = .ok (.iinc 8 1, 3) := by decide +kernel
theorem dL_agree_54 : decode cL_agree 54 = .ok (.goto (-31), 3) := by decide +kernel
theorem dL_agree_57 : decode cL_agree 57 = .ok (.iconst 0, 1) := by decide +kernel
theorem dL_agree_58 : decode cL_agree 58 = .ok (.istore 8, 2) := by decide +kernel
theorem dL_agree_60 : decode cL_agree 60 = .ok (.iload 8, 2) := by decide +kernel
theorem dL_agree_62 : decode cL_agree 62 = .ok (.aload_n 2, 1) := by decide +kernel
theorem dL_agree_63 : decode cL_agree 63 = .ok (.iconst 4, 1) := by decide +kernel
theorem dL_agree_64 : decode cL_agree 64 = .ok (.iload 7, 2) := by decide +kernel
theorem dL_agree_66 : decode cL_agree 66 = .ok (.imul, 1) := by decide +kernel
theorem dL_agree_67 : decode cL_agree 67 = .ok (.iconst 2, 1) := by decide +kernel
theorem dL_agree_68 : decode cL_agree 68 = .ok (.iadd, 1) := by decide +kernel
theorem dL_agree_69 : decode cL_agree 69 = .ok (.iaload, 1) := by decide +kernel
theorem dL_agree_70 : decode cL_agree 70 = .ok (.if_icmp .ge 152, 3) := by decide +kernel
theorem dL_agree_73 : decode cL_agree 73 = .ok (.aload_n 1, 1) := by decide +kernel
theorem dL_agree_74 : decode cL_agree 74 = .ok (.aload_n 2, 1) := by decide +kernel
theorem dL_agree_75 : decode cL_agree 75 = .ok (.iload 7, 2) := by decide +kernel
theorem dL_agree_77 : decode cL_agree 77 = .ok (.iload 8, 2) := by decide +kernel
theorem dL_agree_79 : decode cL_agree 79 = .ok (.invokestatic 54, 3) := by decide +kernel
theorem dL_agree_82 : decode cL_agree 82 = .ok (.istore 9, 2) := by decide +kernel
theorem dL_agree_84 : decode cL_agree 84 = .ok (.aload_n 1, 1) := by decide +kernel
theorem dL_agree_85 : decode cL_agree 85 = .ok (.aload_n 2, 1) := by decide +kernel
theorem dL_agree_86 : decode cL_agree 86 = .ok (.aload_n 3, 1) := by decide +kernel
theorem dL_agree_87 : decode cL_agree 87 = .ok (.iload 7, 2) := by decide +kernel
theorem dL_agree_89 : decode cL_agree 89 = .ok (.iload 8, 2) := by decide +kernel
theorem dL_agree_91 : decode cL_agree 91 = .ok (.invokestatic 62, 3) := by decide +kernel
theorem dL_agree_94 : decode cL_agree 94 = .ok (.istore 10, 2) := by decide +kernel
theorem dL_agree_96 : decode cL_agree 96 = .ok (.aload_n 2, 1) := by decide +kernel
theorem dL_agree_97 : decode cL_agree 97 = .ok (.iconst 4, 1) := by decide +kernel
theorem dL_agree_98 : decode cL_agree 98 = .ok (.iload 7, 2) := by decide +kernel
theorem dL_agree_100 : decode cL_agree 100 = .ok (.imul, 1) := by decide +kernel
theorem dL_agree_101 : decode cL_agree 101 = .ok (.iconst 3, 1) := by decide +kernel
theorem dL_agree_102 : decode cL_agree 102 = .ok (.iadd, 1) := by decide +kernel
theorem dL_agree_103 : decode cL_agree 103 = .ok (.iaload, 1) := by decide +kernel
theorem dL_agree_104 : decode cL_agree 104 = .ok (.iload 8, 2) := by decide +kernel
theorem dL_agree_106 : decode cL_agree 106 = .ok (.ishr, 1) := by decide +kernel
theorem dL_agree_107 : decode cL_agree 107 = .ok (.iconst 1, 1) := by decide +kernel
theorem dL_agree_108 : decode cL_agree 108 = .ok (.iand, 1) := by decide +kernel
theorem dL_agree_109 : decode cL_agree 109 = .ok (.istore 11, 2) := by decide +kernel
theorem dL_agree_111 : decode cL_agree 111 = .ok (.iload 9, 2) := by decide +kernel
theorem dL_agree_113 : decode cL_agree 113 = .ok (.iload 10, 2) := by decide +kernel
theorem dL_agree_115 : decode cL_agree 115 = .ok (.iadd, 1) := by decide +kernel
theorem dL_agree_116 : decode cL_agree 116 = .ok (.ifCond .ne 6, 3) := by decide +kernel
theorem dL_agree_119 : decode cL_agree 119 = .ok (.iinc 4 1, 3) := by decide +kernel
theorem dL_agree_122 : decode cL_agree 122 = .ok (.iload 9, 2) := by decide +kernel
theorem dL_agree_124 : decode cL_agree 124 = .ok (.iload 10, 2) := by decide +kernel
theorem dL_agree_126 : decode cL_agree 126 = .ok (.iadd, 1) := by decide +kernel
theorem dL_agree_127 : decode cL_agree 127 = .ok (.ifCond .ne 12, 3) := by decide +kernel
theorem dL_agree_130 : decode cL_agree 130 = .ok (.iload 11, 2) := by decide +kernel
theorem dL_agree_132 : decode cL_agree 132 = .ok (.iconst 1, 1) := by decide +kernel
theorem dL_agree_133 : decode cL_agree 133 = .ok (.if_icmp .ne 6, 3) := by decide +kernel
theorem dL_agree_136 : decode cL_agree 136 = .ok (.iinc 5 1, 3) := by decide +kernel
theorem dL_agree_139 : decode cL_agree 139 = .ok (.iload 11, 2) := by decide +kernel
theorem dL_agree_141 : decode cL_agree 141 = .ok (.iconst 1, 1) := by decide +kernel
theorem dL_agree_142 : decode cL_agree 142 = .ok (.if_icmp .ne 10, 3) := by decide +kernel
theorem dL_agree_145 : decode cL_agree 145 = .ok (.iload 6, 2) := by decide +kernel
theorem dL_agree_147 : decode cL_agree 147 = .ok (.iload 9, 2) := by decide +kernel
theorem dL_agree_149 : decode cL_agree 149 = .ok (.iadd, 1) := by decide +kernel
theorem dL_agree_150 : decode cL_agree 150 = .ok (.istore 6, 2) := by decide +kernel
theorem dL_agree_152 : decode cL_agree 152 = .ok (.aload_n 0, 1) := by decide +kernel
theorem dL_agree_153 : decode cL_agree 153 = .ok (.iload 7, 2) := by decide +kernel
theorem dL_agree_155 : decode cL_agree 155 = .ok (.iload 8, 2) := by decide +kernel
theorem dL_agree_157 : decode cL_agree 157 = .ok (.iconst 0, 1) := by decide +kernel
theorem dL_agree_158 : decode cL_agree 158 = .ok (.invokevirtual 75, 3) := by decide +kernel
theorem dL_agree_161 : decode cL_agree 161 = .ok (.aload_n 2, 1) := by decide +kernel
theorem dL_agree_162 : decode cL_agree 162 = .ok (.iload 7, 2) := by decide +kernel
theorem dL_agree_164 : decode cL_agree 164 = .ok (.iload 8, 2) := by decide +kernel
theorem dL_agree_166 : decode cL_agree 166 = .ok (.invokestatic 8, 3) := by decide +kernel
theorem dL_agree_169 : decode cL_agree 169 = .ok (.if_icmp .ne 45, 3) := by decide +kernel
theorem dL_agree_172 : decode cL_agree 172 = .ok (.aload_n 0, 1) := by decide +kernel
theorem dL_agree_173 : decode cL_agree 173 = .ok (.iload 7, 2) := by decide +kernel
theorem dL_agree_175 : decode cL_agree 175 = .ok (.iload 8, 2) := by decide +kernel
theorem dL_agree_177 : decode cL_agree 177 = .ok (.iconst 1, 1) := by decide +kernel
theorem dL_agree_178 : decode cL_agree 178 = .ok (.invokevirtual 75, 3) := by decide +kernel
theorem dL_agree_181 : decode cL_agree 181 = .ok (.iload 11, 2) := by decide +kernel
theorem dL_agree_183 : decode cL_agree 183 = .ok (.if_icmp .ne 31, 3) := by decide +kernel
theorem dL_agree_186 : decode cL_agree 186 = .ok (.aload_n 0, 1) := by decide +kernel
theorem dL_agree_187 : decode cL_agree 187 = .ok (.iload 7, 2) := by decide +kernel
theorem dL_agree_189 : decode cL_agree 189 = .ok (.iload 8, 2) := by decide +kernel
theorem dL_agree_191 : decode cL_agree 191 = .ok (.iconst 2, 1) := by decide +kernel
theorem dL_agree_192 : decode cL_agree 192 = .ok (.invokevirtual 75, 3) := by decide +kernel
theorem dL_agree_195 : decode cL_agree 195 = .ok (.iload 9, 2) := by decide +kernel
theorem dL_agree_197 : decode cL_agree 197 = .ok (.if_icmp .ne 17, 3) := by decide +kernel
theorem dL_agree_200 : decode cL_agree 200 = .ok (.aload_n 0, 1) := by decide +kernel
theorem dL_agree_201 : decode cL_agree 201 = .ok (.iload 7, 2) := by decide +kernel
theorem dL_agree_203 : decode cL_agree 203 = .ok (.iload 8, 2) := by decide +kernel
theorem dL_agree_205 : decode cL_agree 205 = .ok (.iconst 3, 1) := by decide +kernel
theorem dL_agree_206 : decode cL_agree 206 = .ok (.invokevirtual 75, 3) := by decide +kernel
theorem dL_agree_209 : decode cL_agree 209 = .ok (.iload 10, 2) := by decide +kernel
theorem dL_agree_211 : decode cL_agree 211 = .ok (.if_icmp .eq 5, 3) := by decide +kernel
theorem dL_agree_214 : decode cL_agree 214 = .ok (.iconst 0, 1) := by decide +kernel
theorem dL_agree_215 : decode cL_agree 215 = .ok (.ireturn, 1) := by decide +kernel
theorem dL_agree_216 : decode cL_agree 216 = .ok (.iinc 8 1, 3) := by decide +kernel
theorem dL_agree_219 : decode cL_agree 219 = .ok (.goto (-159), 3) := by decide +kernel
theorem dL_agree_222 : decode cL_agree 222 = .ok (.iinc 7 1, 3) := by decide +kernel
theorem dL_agree_225 : decode cL_agree 225 = .ok (.goto (-213), 3) := by decide +kernel
theorem dL_agree_228 : decode cL_agree 228 = .ok (.iconst 0, 1) := by decide +kernel
theorem dL_agree_229 : decode cL_agree 229 = .ok (.istore 7, 2) := by decide +kernel
theorem dL_agree_231 : decode cL_agree 231 = .ok (.iload 7, 2) := by decide +kernel
theorem dL_agree_233 : decode cL_agree 233 = .ok (.aload_n 1, 1) := by decide +kernel
theorem dL_agree_234 : decode cL_agree 234 = .ok (.iconst 1, 1) := by decide +kernel
theorem dL_agree_235 : decode cL_agree 235 = .ok (.iaload, 1) := by decide +kernel
theorem dL_agree_236 : decode cL_agree 236 = .ok (.if_icmp .ge 46, 3) := by decide +kernel
theorem dL_agree_239 : decode cL_agree 239 = .ok (.iconst 0, 1) := by decide +kernel
theorem dL_agree_240 : decode cL_agree 240 = .ok (.istore 8, 2) := by decide +kernel
theorem dL_agree_242 : decode cL_agree 242 = .ok (.iload 8, 2) := by decide +kernel
theorem dL_agree_244 : decode cL_agree 244 = .ok (.iconst 3, 1) := by decide +kernel
theorem dL_agree_245 : decode cL_agree 245 = .ok (.if_icmp .ge 31, 3) := by decide +kernel
theorem dL_agree_248 : decode cL_agree 248 = .ok (.aload_n 0, 1) := by decide +kernel
theorem dL_agree_249 : decode cL_agree 249 = .ok (.iload 7, 2) := by decide +kernel
theorem dL_agree_251 : decode cL_agree 251 = .ok (.iload 8, 2) := by decide +kernel
theorem dL_agree_253 : decode cL_agree 253 = .ok (.invokevirtual 78, 3) := by decide +kernel
theorem dL_agree_256 : decode cL_agree 256 = .ok (.aload_n 3, 1) := by decide +kernel
theorem dL_agree_257 : decode cL_agree 257 = .ok (.iconst 3, 1) := by decide +kernel
theorem dL_agree_258 : decode cL_agree 258 = .ok (.iload 7, 2) := by decide +kernel
theorem dL_agree_260 : decode cL_agree 260 = .ok (.imul, 1) := by decide +kernel
theorem dL_agree_261 : decode cL_agree 261 = .ok (.iload 8, 2) := by decide +kernel
theorem dL_agree_263 : decode cL_agree 263 = .ok (.iadd, 1) := by decide +kernel
theorem dL_agree_264 : decode cL_agree 264 = .ok (.iaload, 1) := by decide +kernel
theorem dL_agree_265 : decode cL_agree 265 = .ok (.if_icmp .eq 5, 3) := by decide +kernel
theorem dL_agree_268 : decode cL_agree 268 = .ok (.iconst 0, 1) := by decide +kernel
theorem dL_agree_269 : decode cL_agree 269 = .ok (.ireturn, 1) := by decide +kernel
theorem dL_agree_270 : decode cL_agree 270 = .ok (.iinc 8 1, 3) := by decide +kernel
theorem dL_agree_273 : decode cL_agree 273 = .ok (.goto (-31), 3) := by decide +kernel
theorem dL_agree_276 : decode cL_agree 276 = .ok (.iinc 7 1, 3) := by decide +kernel
theorem dL_agree_279 : decode cL_agree 279 = .ok (.goto (-48), 3) := by decide +kernel
theorem dL_agree_282 : decode cL_agree 282 = .ok (.aload_n 0, 1) := by decide +kernel
theorem dL_agree_283 : decode cL_agree 283 = .ok (.iconst 0, 1) := by decide +kernel
theorem dL_agree_284 : decode cL_agree 284 = .ok (.invokevirtual 66, 3) := by decide +kernel
theorem dL_agree_287 : decode cL_agree 287 = .ok (.aload_n 1, 1) := by decide +kernel
theorem dL_agree_288 : decode cL_agree 288 = .ok (.iconst 0, 1) := by decide +kernel
theorem dL_agree_289 : decode cL_agree 289 = .ok (.iaload, 1) := by decide +kernel
theorem dL_agree_290 : decode cL_agree 290 = .ok (.if_icmp .ne 89, 3) := by decide +kernel
theorem dL_agree_293 : decode cL_agree 293 = .ok (.aload_n 0, 1) := by decide +kernel
theorem dL_agree_294 : decode cL_agree 294 = .ok (.iconst 1, 1) := by decide +kernel
theorem dL_agree_295 : decode cL_agree 295 = .ok (.invokevirtual 66, 3) := by decide +kernel
theorem dL_agree_298 : decode cL_agree 298 = .ok (.aload_n 1, 1) := by decide +kernel
theorem dL_agree_299 : decode cL_agree 299 = .ok (.iconst 1, 1) := by decide +kernel
theorem dL_agree_300 : decode cL_agree 300 = .ok (.iaload, 1) := by decide +kernel
theorem dL_agree_301 : decode cL_agree 301 = .ok (.if_icmp .ne 78, 3) := by decide +kernel
theorem dL_agree_304 : decode cL_agree 304 = .ok (.aload_n 0, 1) := by decide +kernel
theorem dL_agree_305 : decode cL_agree 305 = .ok (.iconst 2, 1) := by decide +kernel
theorem dL_agree_306 : decode cL_agree 306 = .ok (.invokevirtual 66, 3) := by decide +kernel
theorem dL_agree_309 : decode cL_agree 309 = .ok (.aload_n 1, 1) := by decide +kernel
theorem dL_agree_310 : decode cL_agree 310 = .ok (.aload_n 2, 1) := by decide +kernel
theorem dL_agree_311 : decode cL_agree 311 = .ok (.iconst 0, 1) := by decide +kernel
theorem dL_agree_312 : decode cL_agree 312 = .ok (.invokestatic 32, 3) := by decide +kernel
theorem dL_agree_315 : decode cL_agree 315 = .ok (.if_icmp .ne 64, 3) := by decide +kernel
theorem dL_agree_318 : decode cL_agree 318 = .ok (.aload_n 0, 1) := by decide +kernel
theorem dL_agree_319 : decode cL_agree 319 = .ok (.iconst 3, 1) := by decide +kernel
theorem dL_agree_320 : decode cL_agree 320 = .ok (.invokevirtual 66, 3) := by decide +kernel
theorem dL_agree_323 : decode cL_agree 323 = .ok (.aload_n 1, 1) := by decide +kernel
theorem dL_agree_324 : decode cL_agree 324 = .ok (.aload_n 2, 1) := by decide +kernel
theorem dL_agree_325 : decode cL_agree 325 = .ok (.iconst 1, 1) := by decide +kernel
theorem dL_agree_326 : decode cL_agree 326 = .ok (.invokestatic 32, 3) := by decide +kernel
theorem dL_agree_329 : decode cL_agree 329 = .ok (.if_icmp .ne 50, 3) := by decide +kernel
theorem dL_agree_332 : decode cL_agree 332 = .ok (.aload_n 0, 1) := by decide +kernel
theorem dL_agree_333 : decode cL_agree 333 = .ok (.iconst 4, 1) := by decide +kernel
theorem dL_agree_334 : decode cL_agree 334 = .ok (.invokevirtual 66, 3) := by decide +kernel
theorem dL_agree_337 : decode cL_agree 337 = .ok (.iload 4, 2) := by decide +kernel
theorem dL_agree_339 : decode cL_agree 339 = .ok (.if_icmp .ne 40, 3) := by decide +kernel
theorem dL_agree_342 : decode cL_agree 342 = .ok (.aload_n 0, 1) := by decide +kernel
theorem dL_agree_343 : decode cL_agree 343 = .ok (.iconst 5, 1) := by decide +kernel
theorem dL_agree_344 : decode cL_agree 344 = .ok (.invokevirtual 66, 3) := by decide +kernel
theorem dL_agree_347 : decode cL_agree 347 = .ok (.iload 5, 2) := by decide +kernel
theorem dL_agree_349 : decode cL_agree 349 = .ok (.if_icmp .ne 30, 3) := by decide +kernel
theorem dL_agree_352 : decode cL_agree 352 = .ok (.aload_n 0, 1) := by decide +kernel
theorem dL_agree_353 : decode cL_agree 353 = .ok (.bipush 6, 2) := by decide +kernel
theorem dL_agree_355 : decode cL_agree 355 = .ok (.invokevirtual 66, 3) := by decide +kernel
theorem dL_agree_358 : decode cL_agree 358 = .ok (.iload 6, 2) := by decide +kernel
theorem dL_agree_360 : decode cL_agree 360 = .ok (.if_icmp .ne 19, 3) := by decide +kernel
theorem dL_agree_363 : decode cL_agree 363 = .ok (.aload_n 0, 1) := by decide +kernel
theorem dL_agree_364 : decode cL_agree 364 = .ok (.bipush 8, 2) := by decide +kernel
theorem dL_agree_366 : decode cL_agree 366 = .ok (.invokevirtual 66, 3) := by decide +kernel
theorem dL_agree_369 : decode cL_agree 369 = .ok (.aload_n 1, 1) := by decide +kernel
theorem dL_agree_370 : decode cL_agree 370 = .ok (.iconst 2, 1) := by decide +kernel
theorem dL_agree_371 : decode cL_agree 371 = .ok (.iaload, 1) := by decide +kernel
theorem dL_agree_372 : decode cL_agree 372 = .ok (.if_icmp .ne 7, 3) := by decide +kernel
theorem dL_agree_375 : decode cL_agree 375 = .ok (.iconst 1, 1) := by decide +kernel
theorem dL_agree_376 : decode cL_agree 376 = .ok (.goto 4, 3) := by decide +kernel
theorem dL_agree_379 : decode cL_agree 379 = .ok (.iconst 0, 1) := by decide +kernel
theorem dL_agree_380 : decode cL_agree 380 = .ok (.ireturn, 1) := by decide +kernel
set_option maxRecDepth 20000 in
theorem ggL_law_X4_init : GoodIn wsL_law wsX4_init := goodIn_r _ [6, 7, 8, 9, 10, 11, 12, 13, 14, 15, 16, 17, 18, 19, 20, 21, 22, 23, 24, 25, 26, 27, 28, 29, 30, 31, 3, 32, 33, 34, 35, 36, 37, 38, 39, 40, 41, 42, 43, 44, 45, 46, 47, 48, 49, 50, 51, 52, 53, 54, 55, 56, 57, 408, 409, 410, 411, 412, 403, 404, 405, 406, 407, 413, 414, 415, 416, 417, 418, 419, 420, 421, 422, 423, 424, 425, 426, 427, 428, 429] (by decide +kernel) (by decide +kernel)
set_option maxRecDepth 20000 in
theorem gL_law_X4_init : GoodIn wsL_law (wsX4_init) := ggL_law_X4_init
set_option maxRecDepth 20000 in
theorem ggL_law_L_cell : GoodIn wsL_law wsL_cell := goodIn_r _ [61, 62] (by decide +kernel) (by decide +kernel)
set_option maxRecDepth 20000 in
theorem gL_law_L_cell : GoodIn wsL_law (va_wsS RL 82 yL_cell wsL_cell) := goodIn_app (goodIn_of _ (by decide +kernel)) ggL_law_L_cell
set_option maxRecDepth 20000 in
theorem ggL_law_L_at : GoodIn wsL_law wsL_at := goodIn_r _ [65] (by decide +kernel) (by decide +kernel)
set_option maxRecDepth 20000 in
theorem gL_law_L_at : GoodIn wsL_law (va_wsS RL 18 yL_at wsL_at) := goodIn_app (goodIn_of _ (by decide +kernel)) ggL_law_L_at
set_option maxRecDepth 20000 in
theorem ggL_law_L_builds : GoodIn wsL_law wsL_builds := goodIn_ca (goodIn_ca (goodIn_ca (goodIn_cons (List.mem_of_getElem? (i := 68) rfl) rfl (goodIn_r _ [63, 64, 60, 65, 69, 70, 71, 2, 72, 73, 74, 75, 76, 15, 77, 78, 79, 80, 81, 82, 30, 83, 84, 38, 85, 86, 87, 88, 20, 13, 89, 90, 91, 19, 92, 93, 51, 94, 95, 96, 97, 98, 99, 100, 101, 102, 103, 104, 105, 39, 40, 41, 106, 42, 43, 44, 45, 107, 108, 109, 12, 110, 111, 112, 113, 114, 115, 116, 117, 118, 119, 120, 121, 122, 123, 124, 125, 126, 127, 128, 129, 130, 131, 132, 133, 134, 135, 136, 137, 138, 139, 140, 141, 142, 143, 144, 145, 146, 147, 148, 149, 150, 151, 152, 153, 154, 155, 156, 157, 158, 159, 160, 161, 162, 163, 164, 165, 166, 167, 168, 169, 170, 171, 172, 173, 174, 175, 176, 177, 403, 404, 405, 406, 407, 420, 421, 422, 423, 424, 425, 426, 427, 428, 429, 413, 414, 408, 409, 410, 411, 412] (by decide +kernel) (by decide +kernel))) (goodIn_sub (fun _ h => List.mem_append_left _ (List.mem_append_left _ (List.mem_append_right _ h))) (by decide +kernel))) (goodIn_sub (fun _ h => List.mem_append_left _ (List.mem_append_right _ h)) (by decide +kernel))) (goodIn_sub (fun _ h => List.mem_append_right _ h) (by decide +kernel))
set_option maxRecDepth 20000 in
theorem gL_law_L_builds : GoodIn wsL_law (va_wsS RL 86 yL_builds wsL_builds) := goodIn_app (goodIn_of _ (by decide +kernel)) ggL_law_L_builds
set_option maxRecDepth 20000 in
theorem ggL_law_L_sits : GoodIn wsL_law wsL_sits := goodIn_ca (goodIn_ca (goodIn_ca (goodIn_cons (List.mem_of_getElem? (i := 180) rfl) rfl (goodIn_r _ [63, 64, 60, 65, 181, 182, 183, 2, 184, 75, 76, 15, 185, 186, 187, 188, 128, 129, 189, 124, 125, 126, 127, 130, 190, 191, 192, 30, 193, 41, 85, 86, 87, 88, 20, 13, 89, 90, 91, 19, 92, 93, 51, 94, 95, 96, 97, 98, 99, 100, 101, 84, 38, 102, 103, 104, 105, 39, 40, 106, 42, 43, 44, 45, 107, 108, 109, 12, 110, 111, 194, 195, 196, 197, 198, 199, 200, 201, 202, 203, 204, 205, 206, 207, 208, 209, 210, 211, 212, 213, 214, 215, 139, 140, 141, 216, 217, 218, 219, 220, 221, 222, 223, 224, 225, 226, 227, 228, 229, 230, 231, 232, 233, 234, 235, 236, 237, 238, 239, 240, 241, 242, 243, 244, 245, 246, 247, 248, 249, 250, 251, 252, 253, 254, 255, 256, 257, 258, 259, 260, 261, 262, 263, 264, 265, 266, 267, 268, 269, 270, 271, 272, 273, 274, 275, 73, 74, 276, 277, 278, 279, 31, 280, 281, 32, 33, 34, 282, 283, 284, 285, 286, 287, 288, 289, 290, 291, 292, 293, 294, 295, 296, 297, 298, 299, 300, 301, 302, 303, 304, 305, 306, 307, 146, 308, 135, 136, 137, 138, 309, 310, 311, 312, 313, 314, 315, 316, 317, 318, 319, 320, 321, 322, 323, 324, 325, 326, 327, 328, 329, 330, 331, 332, 333, 334, 335, 336, 337, 338, 339, 340, 341, 342, 343, 344, 345, 346, 347, 348, 349, 350, 351, 352, 403, 404, 405, 406, 407, 420, 421, 422, 423, 424, 425, 426, 427, 428, 429, 413, 414, 408, 409, 410, 411, 412] (by decide +kernel) (by decide +kernel))) (goodIn_sub (fun _ h => List.mem_append_left _ (List.mem_append_right _ h)) (by decide +kernel))) (goodIn_sub (fun _ h => List.mem_append_right _ h) (by decide +kernel))) (goodIn_sub (fun _ h => List.mem_append_left _ (List.mem_append_left _ (List.mem_append_right _ h))) (by decide +kernel))
set_option maxRecDepth 20000 in
theorem gL_law_L_sits : GoodIn wsL_law (va_wsS RL 90 yL_sits wsL_sits) := goodIn_app (goodIn_of _ (by decide +kernel)) ggL_law_L_sits
set_option maxRecDepth 20000 in
theorem ggL_law_L_agree : GoodIn wsL_law wsL_agree := goodIn_ca (goodIn_ca (goodIn_cons (List.mem_of_getElem? (i := 355) rfl) rfl (goodIn_r _ [356, 357, 358, 2, 359, 13, 124, 125, 126, 127, 128, 129, 15, 130, 273, 274, 275, 73, 74, 276, 277, 278, 12, 279, 111, 31, 280, 281, 32, 33, 34, 282, 283, 284, 285, 225, 226, 30, 227, 40, 228, 191, 192, 193, 41, 229, 230, 231, 232, 38, 233, 234, 235, 236, 237, 238, 239, 240, 241, 242, 243, 244, 39, 45, 245, 246, 247, 248, 286, 287, 288, 289, 106, 290, 291, 292, 293, 42, 43, 44, 294, 295, 296, 297, 298, 299, 300, 301, 302, 303, 360, 361, 362, 363, 364, 167, 189, 365, 206, 207, 208, 209, 210, 211, 212, 213, 214, 215, 366, 314, 315, 316, 317, 318, 319, 320, 249, 250, 60, 251, 252, 253, 254, 255, 256, 257, 266, 267, 268, 367, 368, 369, 370, 185, 186, 187, 188, 371, 372, 373, 374, 375, 376, 377, 190, 378, 379, 380, 381, 382, 383, 84, 384, 385, 386, 387, 325, 388, 389, 390, 391, 147, 148, 149, 150, 146, 392, 393, 394, 395, 396, 397, 398, 399, 400, 401, 402, 269, 270, 271, 272, 304, 305, 306, 307, 20, 308, 135, 136, 137, 138, 201, 202, 203, 204, 205, 309, 310, 311, 312, 313, 321, 322, 323, 324, 326, 327, 328, 329, 330, 331, 332, 333, 334, 335, 336, 139, 140, 141, 403, 404, 405, 406, 407, 420, 421, 422, 423, 424, 425, 426, 427, 428, 429, 408, 409, 410, 411, 412, 413, 414] (by decide +kernel) (by decide +kernel))) (goodIn_sub (fun _ h => List.mem_append_right _ h) (by decide +kernel))) (goodIn_sub (fun _ h => List.mem_append_left _ (List.mem_append_left _ (List.mem_append_right _ h))) (by decide +kernel))
set_option maxRecDepth 20000 in
theorem gL_law_L_agree : GoodIn wsL_law (va_wsS RL 93 yL_agree wsL_agree) := goodIn_app (goodIn_of _ (by decide +kernel)) ggL_law_L_agree
theorem dL_law_0 : decode cL_law 0 = .ok (.new 23, 3) := by decide +kernel
theorem dL_law_3 : decode cL_law 3 = .ok (.dup, 1) := by decide +kernel
theorem dL_law_4 : decode cL_law 4 = .ok (.invokespecial 81, 3) := by decide +kernel
theorem dL_law_7 : decode cL_law 7 = .ok (.astore_n 1, 1) := by decide +kernel
theorem dL_law_8 : decode cL_law 8 = .ok (.bipush 6, 2) := by decide +kernel
theorem dL_law_10 : decode cL_law 10 = .ok (.newarray .int, 2) := by decide +kernel
theorem dL_law_12 : decode cL_law 12 = .ok (.astore_n 2, 1) := by decide +kernel
theorem dL_law_13 : decode cL_law 13 = .ok (.bipush 28, 2) := by decide +kernel
theorem dL_law_15 : decode cL_law 15 = .ok (.newarray .int, 2) := by decide +kernel
theorem dL_law_17 : decode cL_law 17 = .ok (.astore_n 3, 1) := by decide +kernel
theorem dL_law_18 : decode cL_law 18 = .ok (.bipush 15, 2) := by decide +kernel
theorem dL_law_20 : decode cL_law 20 = .ok (.newarray .int, 2) := by decide +kernel
theorem dL_law_22 : decode cL_law 22 = .ok (.astore 4, 2) := by decide +kernel
theorem dL_law_24 : decode cL_law 24 = .ok (.aload_n 2, 1) := by decide +kernel
theorem dL_law_25 : decode cL_law 25 = .ok (.iconst 3, 1) := by decide +kernel
theorem dL_law_26 : decode cL_law 26 = .ok (.bipush 100, 2) := by decide +kernel
theorem dL_law_28 : decode cL_law 28 = .ok (.iastore, 1) := by decide +kernel
theorem dL_law_29 : decode cL_law 29 = .ok (.aload_n 2, 1) := by decide +kernel
theorem dL_law_30 : decode cL_law 30 = .ok (.iconst 4, 1) := by decide +kernel
theorem dL_law_31 : decode cL_law 31 = .ok (.bipush 120, 2) := by decide +kernel
theorem dL_law_33 : decode cL_law 33 = .ok (.iastore, 1) := by decide +kernel
theorem dL_law_34 : decode cL_law 34 = .ok (.aload_n 2, 1) := by decide +kernel
theorem dL_law_35 : decode cL_law 35 = .ok (.iconst 5, 1) := by decide +kernel
theorem dL_law_36 : decode cL_law 36 = .ok (.bipush 12, 2) := by decide +kernel
theorem dL_law_38 : decode cL_law 38 = .ok (.iastore, 1) := by decide +kernel
theorem dL_law_39 : decode cL_law 39 = .ok (.iconst 0, 1) := by decide +kernel
theorem dL_law_40 : decode cL_law 40 = .ok (.istore 5, 2) := by decide +kernel
theorem dL_law_42 : decode cL_law 42 = .ok (.iload 5, 2) := by decide +kernel
theorem dL_law_44 : decode cL_law 44 = .ok (.bipush 50, 2) := by decide +kernel
theorem dL_law_46 : decode cL_law 46 = .ok (.if_icmp .ge 97, 3) := by decide +kernel
theorem dL_law_49 : decode cL_law 49 = .ok (.aload_n 0, 1) := by decide +kernel
theorem dL_law_50 : decode cL_law 50 = .ok (.iconst 2, 1) := by decide +kernel
theorem dL_law_51 : decode cL_law 51 = .ok (.iload 5, 2) := by decide +kernel
theorem dL_law_53 : decode cL_law 53 = .ok (.imul, 1) := by decide +kernel
theorem dL_law_54 : decode cL_law 54 = .ok (.invokestatic 82, 3) := by decide +kernel
theorem dL_law_57 : decode cL_law 57 = .ok (.istore 6, 2) := by decide +kernel
theorem dL_law_59 : decode cL_law 59 = .ok (.aload_n 0, 1) := by decide +kernel
theorem dL_law_60 : decode cL_law 60 = .ok (.iconst 2, 1) := by decide +kernel
theorem dL_law_61 : decode cL_law 61 = .ok (.iload 5, 2) := by decide +kernel
theorem dL_law_63 : decode cL_law 63 = .ok (.imul, 1) := by decide +kernel
theorem dL_law_64 : decode cL_law 64 = .ok (.iconst 1, 1) := by decide +kernel
theorem dL_law_65 : decode cL_law 65 = .ok (.iadd, 1) := by decide +kernel
theorem dL_law_66 : decode cL_law 66 = .ok (.invokestatic 82, 3) := by decide +kernel
theorem dL_law_69 : decode cL_law 69 = .ok (.istore 7, 2) := by decide +kernel
theorem dL_law_71 : decode cL_law 71 = .ok (.aload_n 2, 1) := by decide +kernel
theorem dL_law_72 : decode cL_law 72 = .ok (.iconst 0, 1) := by decide +kernel
theorem dL_law_73 : decode cL_law 73 = .ok (.iaload, 1) := by decide +kernel
theorem dL_law_74 : decode cL_law 74 = .ok (.ifCond .eq 17, 3) := by decide +kernel
theorem dL_law_77 : decode cL_law 77 = .ok (.iload 6, 2) := by decide +kernel
theorem dL_law_79 : decode cL_law 79 = .ok (.bipush 20, 2) := by decide +kernel
theorem dL_law_81 : decode cL_law 81 = .ok (.ishr, 1) := by decide +kernel
theorem dL_law_82 : decode cL_law 82 = .ok (.bipush 10, 2) := by decide +kernel
theorem dL_law_84 : decode cL_law 84 = .ok (.invokestatic 18, 3) := by decide +kernel
theorem dL_law_87 : decode cL_law 87 = .ok (.iconst 4, 1) := by decide +kernel
theorem dL_law_88 : decode cL_law 88 = .ok (.if_icmp .ge 21, 3) := by decide +kernel
theorem dL_law_91 : decode cL_law 91 = .ok (.aload_n 1, 1) := by decide +kernel
theorem dL_law_92 : decode cL_law 92 = .ok (.iload 6, 2) := by decide +kernel
theorem dL_law_94 : decode cL_law 94 = .ok (.iload 7, 2) := by decide +kernel
theorem dL_law_96 : decode cL_law 96 = .ok (.aload_n 2, 1) := by decide +kernel
theorem dL_law_97 : decode cL_law 97 = .ok (.aload_n 3, 1) := by decide +kernel
theorem dL_law_98 : decode cL_law 98 = .ok (.aload 4, 2) := by decide +kernel
theorem dL_law_100 : decode cL_law 100 = .ok (.invokestatic 86, 3) := by decide +kernel
theorem dL_law_103 : decode cL_law 103 = .ok (.ifCond .eq 32, 3) := by decide +kernel
theorem dL_law_106 : decode cL_law 106 = .ok (.goto 18, 3) := by decide +kernel
theorem dL_law_109 : decode cL_law 109 = .ok (.aload_n 1, 1) := by decide +kernel
theorem dL_law_110 : decode cL_law 110 = .ok (.iload 6, 2) := by decide +kernel
theorem dL_law_112 : decode cL_law 112 = .ok (.iload 7, 2) := by decide +kernel
theorem dL_law_114 : decode cL_law 114 = .ok (.aload_n 2, 1) := by decide +kernel
theorem dL_law_115 : decode cL_law 115 = .ok (.aload_n 3, 1) := by decide +kernel
theorem dL_law_116 : decode cL_law 116 = .ok (.aload 4, 2) := by decide +kernel
theorem dL_law_118 : decode cL_law 118 = .ok (.invokestatic 90, 3) := by decide +kernel
theorem dL_law_121 : decode cL_law 121 = .ok (.ifCond .eq 14, 3) := by decide +kernel
theorem dL_law_124 : decode cL_law 124 = .ok (.aload_n 1, 1) := by decide +kernel
theorem dL_law_125 : decode cL_law 125 = .ok (.aload_n 2, 1) := by decide +kernel
theorem dL_law_126 : decode cL_law 126 = .ok (.aload_n 3, 1) := by decide +kernel
theorem dL_law_127 : decode cL_law 127 = .ok (.aload 4, 2) := by decide +kernel
theorem dL_law_129 : decode cL_law 129 = .ok (.invokestatic 93, 3) := by decide +kernel
theorem dL_law_132 : decode cL_law 132 = .ok (.ifCond .ne 5, 3) := by decide +kernel
theorem dL_law_135 : decode cL_law 135 = .ok (.iconst 0, 1) := by decide +kernel
theorem dL_law_136 : decode cL_law 136 = .ok (.ireturn, 1) := by decide +kernel
theorem dL_law_137 : decode cL_law 137 = .ok (.iinc 5 1, 3) := by decide +kernel
theorem dL_law_140 : decode cL_law 140 = .ok (.goto (-98), 3) := by decide +kernel
theorem dL_law_143 : decode cL_law 143 = .ok (.iconst 1, 1) := by decide +kernel
theorem dL_law_144 : decode cL_law 144 = .ok (.ireturn, 1) := by decide +kernel
