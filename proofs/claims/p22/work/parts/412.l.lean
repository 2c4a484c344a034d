set_option maxRecDepth 20000 in
theorem ggL_all_X5_strokeOf : GoodIn wsL_all wsX5_strokeOf := goodIn_ca (goodIn_r _ [9, 10, 11, 12, 13, 14, 8, 15, 16, 17, 18, 19, 20, 21, 22, 23, 24, 25, 26, 27, 28, 29, 30, 31, 32, 33, 34, 35, 36, 37, 38, 39, 40, 41, 42, 43, 44, 45, 46, 47, 167, 168, 169, 170, 171, 172, 173, 174, 175, 176, 177] (by decide +kernel) (by decide +kernel)) (goodIn_sub (fun _ h => List.mem_cons_of_mem _ (List.mem_append_left _ (List.mem_append_right _ h))) (by decide +kernel))
set_option maxRecDepth 20000 in
theorem gL_all_X5_strokeOf : GoodIn wsL_all (wsV RL 37 RX5 yX5_strokeOf wsX5_strokeOf) := goodIn_app (goodIn_of _ (by decide +kernel)) ggL_all_X5_strokeOf
set_option maxRecDepth 20000 in
theorem ggL_all_X5_sheets : GoodIn wsL_all wsX5_sheets := goodIn_ca (goodIn_r _ [51, 52, 53, 54, 8, 55, 10, 11, 56, 57, 58, 59, 60, 61, 62, 167, 168, 169, 170, 171, 172, 178, 179] (by decide +kernel) (by decide +kernel)) (goodIn_sub (fun _ h => List.mem_cons_of_mem _ (List.mem_append_left _ (List.mem_append_right _ h))) (by decide +kernel))
set_option maxRecDepth 20000 in
theorem gL_all_X5_sheets : GoodIn wsL_all (wsV RL 48 RX5 yX5_sheets wsX5_sheets) := goodIn_app (goodIn_of _ (by decide +kernel)) ggL_all_X5_sheets
set_option maxRecDepth 20000 in
theorem ggL_all_X5_slips : GoodIn wsL_all wsX5_slips := goodIn_ca (goodIn_ca (goodIn_r _ [66, 67, 68, 69, 70, 71, 8, 72, 10, 11, 73, 74, 18, 19, 20, 21, 22, 23, 24, 25, 26, 27, 28, 29, 30, 31, 32, 33, 34, 35, 36, 37, 38, 39, 40, 75, 76, 77, 78, 79, 80, 81, 82, 83, 84, 167, 168, 169, 170, 171, 172, 173, 174, 175, 180, 181, 182, 183, 184, 185, 186] (by decide +kernel) (by decide +kernel)) (goodIn_sub (fun _ h => List.mem_cons_of_mem _ (List.mem_append_right _ h)) (by decide +kernel))) (goodIn_sub (fun _ h => List.mem_cons_of_mem _ (List.mem_append_left _ (List.mem_append_right _ h))) (by decide +kernel))
set_option maxRecDepth 20000 in
theorem gL_all_X5_slips : GoodIn wsL_all (wsV RL 55 RX5 yX5_slips wsX5_slips) := goodIn_app (goodIn_of _ (by decide +kernel)) ggL_all_X5_slips
set_option maxRecDepth 20000 in
theorem ggL_all_X5_grade : GoodIn wsL_all wsX5_grade := goodIn_ca (goodIn_r _ [88, 89, 69, 70, 71, 8, 72, 10, 11, 73, 74, 18, 19, 20, 21, 22, 23, 24, 25, 26, 27, 28, 29, 30, 31, 32, 33, 34, 35, 36, 37, 38, 39, 40, 90, 91, 92, 93, 94, 95, 96, 97, 98, 99, 100, 101, 102, 103, 104, 105, 106, 107, 108, 109, 110, 180, 181, 182, 183, 184, 185, 186, 167, 168, 169, 170, 171, 172, 173, 174, 175, 187, 188, 189] (by decide +kernel) (by decide +kernel)) (goodIn_sub (fun _ h => List.mem_cons_of_mem _ (List.mem_append_left _ (List.mem_append_right _ h))) (by decide +kernel))
set_option maxRecDepth 20000 in
theorem gL_all_X5_grade : GoodIn wsL_all (wsV RL 66 RX5 yX5_grade wsX5_grade) := goodIn_app (goodIn_of _ (by decide +kernel)) ggL_all_X5_grade
set_option maxRecDepth 20000 in
theorem ggL_all_X5_lacks : GoodIn wsL_all wsX5_lacks := goodIn_ca (goodIn_r _ [114, 89, 69, 70, 71, 8, 72, 10, 11, 73, 74, 18, 19, 20, 21, 22, 23, 24, 25, 26, 27, 28, 29, 30, 31, 32, 33, 34, 35, 36, 37, 38, 39, 40, 115, 105, 106, 93, 107, 103, 95, 108, 109, 98, 110, 180, 181, 182, 183, 184, 185, 186, 167, 168, 169, 170, 171, 172, 173, 174, 175, 187, 188, 189] (by decide +kernel) (by decide +kernel)) (goodIn_sub (fun _ h => List.mem_cons_of_mem _ (List.mem_append_left _ (List.mem_append_right _ h))) (by decide +kernel))
set_option maxRecDepth 20000 in
theorem gL_all_X5_lacks : GoodIn wsL_all (wsV RL 69 RX5 yX5_lacks wsX5_lacks) := goodIn_app (goodIn_of _ (by decide +kernel)) ggL_all_X5_lacks
set_option maxRecDepth 20000 in
theorem ggL_all_X5_worth : GoodIn wsL_all wsX5_worth := goodIn_ca (goodIn_r _ [119, 69, 70, 71, 8, 72, 10, 11, 73, 74, 18, 19, 20, 21, 22, 23, 24, 25, 26, 27, 28, 29, 30, 31, 32, 33, 34, 35, 36, 37, 38, 39, 40, 120, 121, 122, 78, 123, 124, 125, 126, 91, 92, 93, 94, 95, 96, 97, 98, 99, 100, 101, 102, 103, 104, 105, 106, 107, 108, 109, 110, 127, 128, 129, 130, 131, 132, 76, 77, 79, 80, 167, 168, 169, 170, 171, 172, 173, 174, 175, 180, 181, 182, 183, 184, 185, 186, 187, 188, 189] (by decide +kernel) (by decide +kernel)) (goodIn_sub (fun _ h => List.mem_cons_of_mem _ (List.mem_append_left _ (List.mem_append_right _ h))) (by decide +kernel))
set_option maxRecDepth 20000 in
theorem gL_all_X5_worth : GoodIn wsL_all (wsV RL 81 RX5 yX5_worth wsX5_worth) := goodIn_app (goodIn_of _ (by decide +kernel)) ggL_all_X5_worth
set_option maxRecDepth 20000 in
theorem ggL_all_X5_place : GoodIn wsL_all wsX5_place := goodIn_ca (goodIn_r _ [136, 69, 70, 71, 8, 72, 10, 11, 73, 74, 18, 19, 20, 21, 22, 23, 24, 25, 26, 27, 28, 29, 30, 31, 32, 33, 34, 35, 36, 37, 38, 39, 40, 120, 121, 122, 78, 123, 124, 125, 126, 91, 92, 93, 94, 95, 96, 97, 98, 99, 100, 101, 102, 103, 104, 105, 106, 107, 108, 109, 110, 127, 128, 129, 130, 131, 132, 76, 77, 79, 80, 137, 138, 139, 140, 167, 168, 169, 170, 171, 172, 173, 174, 175, 180, 181, 182, 183, 184, 185, 186, 187, 188, 189] (by decide +kernel) (by decide +kernel)) (goodIn_sub (fun _ h => List.mem_cons_of_mem _ (List.mem_append_left _ (List.mem_append_right _ h))) (by decide +kernel))
set_option maxRecDepth 20000 in
theorem gL_all_X5_place : GoodIn wsL_all (wsV RL 84 RX5 yX5_place wsX5_place) := goodIn_app (goodIn_of _ (by decide +kernel)) ggL_all_X5_place
set_option maxRecDepth 20000 in
theorem ggL_all_X5_orderAnew : GoodIn wsL_all wsX5_orderAnew := goodIn_ca (goodIn_r _ [144, 69, 70, 71, 8, 72, 10, 11, 73, 74, 18, 19, 20, 21, 22, 23, 24, 25, 26, 27, 28, 29, 30, 31, 32, 33, 34, 35, 36, 37, 38, 39, 40, 145, 146, 147, 78, 148, 149, 150, 97, 98, 99, 151, 152, 153, 154, 155, 156, 157, 158, 159, 160, 161, 162, 167, 168, 169, 170, 171, 172, 173, 174, 175, 180, 181, 182, 183, 184, 185, 186] (by decide +kernel) (by decide +kernel)) (goodIn_sub (fun _ h => List.mem_cons_of_mem _ (List.mem_append_left _ (List.mem_append_right _ h))) (by decide +kernel))
set_option maxRecDepth 20000 in
theorem gL_all_X5_orderAnew : GoodIn wsL_all (wsV RL 58 RX5 yX5_orderAnew wsX5_orderAnew) := goodIn_app (goodIn_of _ (by decide +kernel)) ggL_all_X5_orderAnew
set_option maxRecDepth 20000 in
theorem ggL_all_X5_at : GoodIn wsL_all wsX5_at := goodIn_ca (goodIn_r _ [166, 10, 11, 73, 74, 18, 19, 20, 21, 22, 23, 24, 25, 26, 27, 28, 29, 30, 31, 32, 33, 34, 35, 36, 37, 38, 39, 40, 120, 121, 122, 78, 123, 124, 125, 126, 91, 92, 93, 94, 95, 96, 97, 98, 99, 100, 101, 102, 103, 104, 105, 106, 107, 108, 109, 110, 127, 128, 129, 130, 131, 132, 76, 77, 79, 80, 137, 138, 139, 8, 140, 167, 168, 169, 170, 171, 172, 173, 174, 175, 180, 181, 182, 183, 184, 185, 186, 187, 188, 189] (by decide +kernel) (by decide +kernel)) (goodIn_sub (fun _ h => List.mem_cons_of_mem _ (List.mem_append_left _ (List.mem_append_right _ h))) (by decide +kernel))
set_option maxRecDepth 20000 in
theorem gL_all_X5_at : GoodIn wsL_all (wsV RL 87 RX5 yX5_at wsX5_at) := goodIn_app (goodIn_of _ (by decide +kernel)) ggL_all_X5_at
theorem dL_all_0 : decode cL_all 0 = .ok (.ldc2_w 90, 3) := by decide +kernel
theorem dL_all_3 : decode cL_all 3 = .ok (.lstore_n 2, 1) := by decide +kernel
theorem dL_all_4 : decode cL_all 4 = .ok (.iconst 0, 1) := by decide +kernel
theorem dL_all_5 : decode cL_all 5 = .ok (.istore 4, 2) := by decide +kernel
theorem dL_all_7 : decode cL_all 7 = .ok (.iload 4, 2) := by decide +kernel
theorem dL_all_9 : decode cL_all 9 = .ok (.aload_n 1, 1) := by decide +kernel
theorem dL_all_10 : decode cL_all 10 = .ok (.iconst 0, 1) := by decide +kernel
theorem dL_all_11 : decode cL_all 11 = .ok (.iaload, 1) := by decide +kernel
theorem dL_all_12 : decode cL_all 12 = .ok (.if_icmp .ge 41, 3) := by decide +kernel
theorem dL_all_15 : decode cL_all 15 = .ok (.iconst 0, 1) := by decide +kernel
theorem dL_all_16 : decode cL_all 16 = .ok (.istore 5, 2) := by decide +kernel
theorem dL_all_18 : decode cL_all 18 = .ok (.iload 5, 2) := by decide +kernel
theorem dL_all_20 : decode cL_all 20 = .ok (.bipush 6, 2) := by decide +kernel
theorem dL_all_22 : decode cL_all 22 = .ok (.if_icmp .ge 25, 3) := by decide +kernel
theorem dL_all_25 : decode cL_all 25 = .ok (.lload_n 2, 1) := by decide +kernel
theorem dL_all_26 : decode cL_all 26 = .ok (.ldc2_w 92, 3) := by decide +kernel
theorem dL_all_29 : decode cL_all 29 = .ok (.lmul, 1) := by decide +kernel
theorem dL_all_30 : decode cL_all 30 = .ok (.aload_n 0, 1) := by decide +kernel
theorem dL_all_31 : decode cL_all 31 = .ok (.iload 4, 2) := by decide +kernel
theorem dL_all_33 : decode cL_all 33 = .ok (.iload 5, 2) := by decide +kernel
theorem dL_all_35 : decode cL_all 35 = .ok (.invokevirtual 37, 3) := by decide +kernel
theorem dL_all_38 : decode cL_all 38 = .ok (.i2l, 1) := by decide +kernel
theorem dL_all_39 : decode cL_all 39 = .ok (.ladd, 1) := by decide +kernel
theorem dL_all_40 : decode cL_all 40 = .ok (.lstore_n 2, 1) := by decide +kernel
theorem dL_all_41 : decode cL_all 41 = .ok (.iinc 5 1, 3) := by decide +kernel
theorem dL_all_44 : decode cL_all 44 = .ok (.goto (-26), 3) := by decide +kernel
theorem dL_all_47 : decode cL_all 47 = .ok (.iinc 4 1, 3) := by decide +kernel
theorem dL_all_50 : decode cL_all 50 = .ok (.goto (-43), 3) := by decide +kernel
theorem dL_all_53 : decode cL_all 53 = .ok (.iconst 0, 1) := by decide +kernel
theorem dL_all_54 : decode cL_all 54 = .ok (.istore 4, 2) := by decide +kernel
theorem dL_all_56 : decode cL_all 56 = .ok (.iload 4, 2) := by decide +kernel
theorem dL_all_58 : decode cL_all 58 = .ok (.bipush 6, 2) := by decide +kernel
theorem dL_all_60 : decode cL_all 60 = .ok (.if_icmp .ge 36, 3) := by decide +kernel
theorem dL_all_63 : decode cL_all 63 = .ok (.lload_n 2, 1) := by decide +kernel
theorem dL_all_64 : decode cL_all 64 = .ok (.ldc2_w 92, 3) := by decide +kernel
theorem dL_all_67 : decode cL_all 67 = .ok (.lmul, 1) := by decide +kernel
theorem dL_all_68 : decode cL_all 68 = .ok (.aload_n 0, 1) := by decide +kernel
theorem dL_all_69 : decode cL_all 69 = .ok (.iload 4, 2) := by decide +kernel
theorem dL_all_71 : decode cL_all 71 = .ok (.iconst 3, 1) := by decide +kernel
theorem dL_all_72 : decode cL_all 72 = .ok (.irem, 1) := by decide +kernel
theorem dL_all_73 : decode cL_all 73 = .ok (.iload 4, 2) := by decide +kernel
theorem dL_all_75 : decode cL_all 75 = .ok (.iconst 2, 1) := by decide +kernel
theorem dL_all_76 : decode cL_all 76 = .ok (.if_icmp .le 7, 3) := by decide +kernel
theorem dL_all_79 : decode cL_all 79 = .ok (.iconst 1, 1) := by decide +kernel
theorem dL_all_80 : decode cL_all 80 = .ok (.goto 4, 3) := by decide +kernel
theorem dL_all_83 : decode cL_all 83 = .ok (.iconst 0, 1) := by decide +kernel
theorem dL_all_84 : decode cL_all 84 = .ok (.invokevirtual 48, 3) := by decide +kernel
theorem dL_all_87 : decode cL_all 87 = .ok (.i2l, 1) := by decide +kernel
theorem dL_all_88 : decode cL_all 88 = .ok (.ladd, 1) := by decide +kernel
theorem dL_all_89 : decode cL_all 89 = .ok (.lstore_n 2, 1) := by decide +kernel
theorem dL_all_90 : decode cL_all 90 = .ok (.iinc 4 1, 3) := by decide +kernel
theorem dL_all_93 : decode cL_all 93 = .ok (.goto (-37), 3) := by decide +kernel
theorem dL_all_96 : decode cL_all 96 = .ok (.iconst 0, 1) := by decide +kernel
theorem dL_all_97 : decode cL_all 97 = .ok (.istore 4, 2) := by decide +kernel
theorem dL_all_99 : decode cL_all 99 = .ok (.iload 4, 2) := by decide +kernel
theorem dL_all_101 : decode cL_all 101 = .ok (.aload_n 1, 1) := by decide +kernel
theorem dL_all_102 : decode cL_all 102 = .ok (.iconst 2, 1) := by decide +kernel
theorem dL_all_103 : decode cL_all 103 = .ok (.iaload, 1) := by decide +kernel
theorem dL_all_104 : decode cL_all 104 = .ok (.if_icmp .ge 105, 3) := by decide +kernel
theorem dL_all_107 : decode cL_all 107 = .ok (.iconst 0, 1) := by decide +kernel
theorem dL_all_108 : decode cL_all 108 = .ok (.istore 5, 2) := by decide +kernel
theorem dL_all_110 : decode cL_all 110 = .ok (.iload 5, 2) := by decide +kernel
theorem dL_all_112 : decode cL_all 112 = .ok (.bipush 6, 2) := by decide +kernel
theorem dL_all_114 : decode cL_all 114 = .ok (.if_icmp .ge 25, 3) := by decide +kernel
theorem dL_all_117 : decode cL_all 117 = .ok (.lload_n 2, 1) := by decide +kernel
theorem dL_all_118 : decode cL_all 118 = .ok (.ldc2_w 94, 3) := by decide +kernel
theorem dL_all_121 : decode cL_all 121 = .ok (.lmul, 1) := by decide +kernel
theorem dL_all_122 : decode cL_all 122 = .ok (.aload_n 0, 1) := by decide +kernel
theorem dL_all_123 : decode cL_all 123 = .ok (.iload 4, 2) := by decide +kernel
theorem dL_all_125 : decode cL_all 125 = .ok (.iload 5, 2) := by decide +kernel
theorem dL_all_127 : decode cL_all 127 = .ok (.invokevirtual 55, 3) := by decide +kernel
theorem dL_all_130 : decode cL_all 130 = .ok (.i2l, 1) := by decide +kernel
theorem dL_all_131 : decode cL_all 131 = .ok (.ladd, 1) := by decide +kernel
theorem dL_all_132 : decode cL_all 132 = .ok (.lstore_n 2, 1) := by decide +kernel
theorem dL_all_133 : decode cL_all 133 = .ok (.iinc 5 1, 3) := by decide +kernel
theorem dL_all_136 : decode cL_all 136 = .ok (.goto (-26), 3) := by decide +kernel
theorem dL_all_139 : decode cL_all 139 = .ok (.lload_n 2, 1) := by decide +kernel
theorem dL_all_140 : decode cL_all 140 = .ok (.ldc2_w 94, 3) := by decide +kernel
theorem dL_all_143 : decode cL_all 143 = .ok (.lmul, 1) := by decide +kernel
theorem dL_all_144 : decode cL_all 144 = .ok (.aload_n 0, 1) := by decide +kernel
theorem dL_all_145 : decode cL_all 145 = .ok (.iload 4, 2) := by decide +kernel
theorem dL_all_147 : decode cL_all 147 = .ok (.invokevirtual 66, 3) := by decide +kernel
theorem dL_all_150 : decode cL_all 150 = .ok (.i2l, 1) := by decide +kernel
theorem dL_all_151 : decode cL_all 151 = .ok (.ladd, 1) := by decide +kernel
theorem dL_all_152 : decode cL_all 152 = .ok (.ldc2_w 94, 3) := by decide +kernel
theorem dL_all_155 : decode cL_all 155 = .ok (.lmul, 1) := by decide +kernel
theorem dL_all_156 : decode cL_all 156 = .ok (.aload_n 0, 1) := by decide +kernel
theorem dL_all_157 : decode cL_all 157 = .ok (.iload 4, 2) := by decide +kernel
theorem dL_all_159 : decode cL_all 159 = .ok (.invokevirtual 69, 3) := by decide +kernel
theorem dL_all_162 : decode cL_all 162 = .ok (.i2l, 1) := by decide +kernel
theorem dL_all_163 : decode cL_all 163 = .ok (.ladd, 1) := by decide +kernel
theorem dL_all_164 : decode cL_all 164 = .ok (.ldc2_w 96, 3) := by decide +kernel
theorem dL_all_167 : decode cL_all 167 = .ok (.lmul, 1) := by decide +kernel
theorem dL_all_168 : decode cL_all 168 = .ok (.aload_n 0, 1) := by decide +kernel
theorem dL_all_169 : decode cL_all 169 = .ok (.iload 4, 2) := by decide +kernel
theorem dL_all_171 : decode cL_all 171 = .ok (.invokevirtual 81, 3) := by decide +kernel
theorem dL_all_174 : decode cL_all 174 = .ok (.i2l, 1) := by decide +kernel
theorem dL_all_175 : decode cL_all 175 = .ok (.ladd, 1) := by decide +kernel
theorem dL_all_176 : decode cL_all 176 = .ok (.lstore_n 2, 1) := by decide +kernel
theorem dL_all_177 : decode cL_all 177 = .ok (.lload_n 2, 1) := by decide +kernel
theorem dL_all_178 : decode cL_all 178 = .ok (.ldc2_w 92, 3) := by decide +kernel
theorem dL_all_181 : decode cL_all 181 = .ok (.lmul, 1) := by decide +kernel
theorem dL_all_182 : decode cL_all 182 = .ok (.aload_n 0, 1) := by decide +kernel
theorem dL_all_183 : decode cL_all 183 = .ok (.iload 4, 2) := by decide +kernel
theorem dL_all_185 : decode cL_all 185 = .ok (.invokevirtual 84, 3) := by decide +kernel
theorem dL_all_188 : decode cL_all 188 = .ok (.i2l, 1) := by decide +kernel
theorem dL_all_189 : decode cL_all 189 = .ok (.ladd, 1) := by decide +kernel
theorem dL_all_190 : decode cL_all 190 = .ok (.ldc2_w 94, 3) := by decide +kernel
theorem dL_all_193 : decode cL_all 193 = .ok (.lmul, 1) := by decide +kernel
theorem dL_all_194 : decode cL_all 194 = .ok (.aload_n 0, 1) := by decide +kernel
theorem dL_all_195 : decode cL_all 195 = .ok (.iload 4, 2) := by decide +kernel
theorem dL_all_197 : decode cL_all 197 = .ok (.invokevirtual 58, 3) := by decide +kernel
theorem dL_all_200 : decode cL_all 200 = .ok (.i2l, 1) := by decide +kernel
theorem dL_all_201 : decode cL_all 201 = .ok (.ladd, 1) := by decide +kernel
theorem dL_all_202 : decode cL_all 202 = .ok (.lstore_n 2, 1) := by decide +kernel
theorem dL_all_203 : decode cL_all 203 = .ok (.iinc 4 1, 3) := by decide +kernel
theorem dL_all_206 : decode cL_all 206 = .ok (.goto (-107), 3) := by decide +kernel
theorem dL_all_209 : decode cL_all 209 = .ok (.lload_n 2, 1) := by decide +kernel
theorem dL_all_210 : decode cL_all 210 = .ok (.ldc2_w 92, 3) := by decide +kernel
theorem dL_all_213 : decode cL_all 213 = .ok (.lmul, 1) := by decide +kernel
theorem dL_all_214 : decode cL_all 214 = .ok (.aload_n 0, 1) := by decide +kernel
theorem dL_all_215 : decode cL_all 215 = .ok (.iconst 1, 1) := by decide +kernel
theorem dL_all_216 : decode cL_all 216 = .ok (.invokevirtual 87, 3) := by decide +kernel
theorem dL_all_219 : decode cL_all 219 = .ok (.i2l, 1) := by decide +kernel
theorem dL_all_220 : decode cL_all 220 = .ok (.ladd, 1) := by decide +kernel
theorem dL_all_221 : decode cL_all 221 = .ok (.lreturn, 1) := by decide +kernel
set_option maxRecDepth 20000 in
theorem ggL_both_L_call : GoodIn wsL_both wsL_call := goodIn_ca (goodIn_ca (goodIn_ca (goodIn_r _ [5, 6, 7, 8, 9, 10, 11, 12, 13, 4, 14, 15, 16, 17, 18, 19, 20, 21, 22, 23, 24, 25, 26, 27, 28, 29, 30, 31, 32, 33, 34, 35, 36, 37, 38, 39, 40, 41, 42, 43, 44, 45, 46, 47, 48, 49, 50, 51, 52, 53, 54, 55, 56, 57, 58, 59, 60, 61, 62, 63, 64, 65, 66, 67, 68, 69, 70, 71, 72, 73, 74, 75, 76, 77, 78, 79, 80, 81, 82, 83, 84, 85, 86, 87, 88, 89, 90, 91, 92, 93, 94, 95, 96, 97, 98, 99, 100, 101, 102, 103, 104, 105, 106, 107, 108, 109, 110, 111, 112, 113, 114, 115, 116, 117, 118, 119, 120, 121, 122, 123, 124, 125, 126, 127, 128, 129, 130, 131, 132, 133, 134, 135, 136, 137, 138, 139, 140, 141, 142, 143, 144, 145, 146, 147, 148, 149, 150, 151, 152, 153, 154, 155, 156, 157, 158, 159, 160, 161, 162, 163, 164, 165, 166, 167, 168, 169, 170, 171, 172, 173, 174, 175, 176, 177, 178, 179, 180, 181, 182, 183, 184, 185, 186, 187, 188, 189, 190, 191, 192, 193, 194, 195, 196, 197, 198, 199, 200, 201, 202, 203, 204, 205, 206, 207, 208, 209, 210, 211, 212, 213, 214, 215, 216, 217, 218, 219, 220, 221, 222, 223, 224, 225, 226, 227, 228, 229, 230, 231, 232, 233, 234, 235, 236, 237, 238, 239, 240, 241, 242, 243, 244, 245, 246, 247, 248, 249, 250, 251, 252, 253, 254, 255, 256, 257, 258, 259, 260, 261, 262, 263, 264, 265, 266, 267, 268, 269, 270, 271, 272, 273, 274, 275, 276, 277, 278, 279, 280, 281, 282, 283, 284, 285, 286, 287, 288, 289, 290, 291, 292, 293, 294, 295, 296, 297, 298, 299, 300, 301, 302, 303, 304, 305, 306, 307, 308, 309, 310, 311, 312, 313, 314, 315, 316, 317, 318, 319, 320, 321, 322, 323, 324, 325, 326, 327, 328, 329, 330, 331, 332, 333, 334, 335, 336, 337, 338, 339, 340, 341, 342, 343, 344, 345, 346, 347, 348, 349, 350, 351, 352, 353, 354, 355, 356, 357, 358, 359, 360, 361, 362, 363, 364, 365, 366, 367, 368, 369, 370, 371, 372, 373, 374, 375, 376, 377, 378, 379, 380, 381, 382, 383, 384, 385, 386, 387, 388, 389, 390, 391, 392, 393, 394, 395, 396, 397, 398, 399, 400, 401, 402, 403, 404, 405, 406, 407, 408, 409, 410, 411, 412, 413, 414, 415, 416, 417, 418, 419, 420, 421, 422, 423, 424, 425, 426, 427, 428, 429, 430, 431, 432, 433, 434, 435, 436, 437, 438] (by decide +kernel) (by decide +kernel)) (goodIn_sub (fun _ h => List.mem_cons_of_mem _ (List.mem_append_left _ (List.mem_append_left _ (List.mem_append_right _ h)))) (by decide +kernel))) (goodIn_sub (fun _ h => List.mem_cons_of_mem _ (List.mem_append_left _ (List.mem_append_right _ h))) (by decide +kernel))) (goodIn_sub (fun _ h => List.mem_cons_of_mem _ (List.mem_append_right _ h)) (by decide +kernel))
set_option maxRecDepth 20000 in
theorem gL_both_L_call : GoodIn wsL_both (va_wsS RL 98 yL_call wsL_call) := goodIn_app (goodIn_of _ (by decide +kernel)) ggL_both_L_call
theorem dL_both_0 : decode cL_both 0 = .ok (.aload_n 0, 1) := by decide +kernel
theorem dL_both_1 : decode cL_both 1 = .ok (.iload_n 2, 1) := by decide +kernel
theorem dL_both_2 : decode cL_both 2 = .ok (.iload_n 3, 1) := by decide +kernel
theorem dL_both_3 : decode cL_both 3 = .ok (.iload 4, 2) := by decide +kernel
theorem dL_both_5 : decode cL_both 5 = .ok (.iload 5, 2) := by decide +kernel
theorem dL_both_7 : decode cL_both 7 = .ok (.invokestatic 98, 3) := by decide +kernel
theorem dL_both_10 : decode cL_both 10 = .ok (.istore 6, 2) := by decide +kernel
theorem dL_both_12 : decode cL_both 12 = .ok (.iload 6, 2) := by decide +kernel
theorem dL_both_14 : decode cL_both 14 = .ok (.aload_n 1, 1) := by decide +kernel
theorem dL_both_15 : decode cL_both 15 = .ok (.iload_n 2, 1) := by decide +kernel
theorem dL_both_16 : decode cL_both 16 = .ok (.iload_n 3, 1) := by decide +kernel
theorem dL_both_17 : decode cL_both 17 = .ok (.iload 4, 2) := by decide +kernel
theorem dL_both_19 : decode cL_both 19 = .ok (.iload 5, 2) := by decide +kernel
theorem dL_both_21 : decode cL_both 21 = .ok (.invokestatic 98, 3) := by decide +kernel
theorem dL_both_24 : decode cL_both 24 = .ok (.if_icmp .ne 8, 3) := by decide +kernel
theorem dL_both_27 : decode cL_both 27 = .ok (.iload 6, 2) := by decide +kernel
theorem dL_both_29 : decode cL_both 29 = .ok (.goto 5, 3) := by decide +kernel
theorem dL_both_32 : decode cL_both 32 = .ok (.ldc 101, 2) := by decide +kernel
theorem dL_both_34 : decode cL_both 34 = .ok (.ireturn, 1) := by decide +kernel
