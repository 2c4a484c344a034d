set_option maxRecDepth 20000 in
theorem ggL_sound_X5_place : GoodIn wsL_sound wsX5_place := goodIn_ca (goodIn_r _ [5, 6, 7, 8, 4, 9, 10, 11, 12, 13, 14, 15, 16, 17, 18, 19, 20, 21, 22, 23, 24, 25, 26, 27, 28, 29, 30, 31, 32, 33, 34, 35, 36, 37, 38, 39, 40, 41, 42, 43, 44, 45, 46, 47, 48, 49, 50, 51, 52, 53, 54, 55, 56, 57, 58, 59, 60, 61, 62, 63, 64, 65, 66, 67, 68, 69, 70, 71, 72, 73, 74, 75, 76, 77, 78, 131, 132, 133, 134, 135, 136, 137, 138, 139, 140, 141, 142, 143, 144, 145, 146, 147, 148, 149] (by decide +kernel) (by decide +kernel)) (goodIn_sub (fun _ h => List.mem_cons_of_mem _ (List.mem_append_left _ (List.mem_append_right _ h))) (by decide +kernel))
set_option maxRecDepth 20000 in
theorem gL_sound_X5_place : GoodIn wsL_sound (wsV RL 84 RX5 yX5_place wsX5_place) := goodIn_app (goodIn_of _ (by decide +kernel)) ggL_sound_X5_place
set_option maxRecDepth 20000 in
theorem ggL_sound_X5_slips : GoodIn wsL_sound wsX5_slips := goodIn_ca (goodIn_ca (goodIn_r _ [82, 83, 84, 6, 7, 8, 4, 9, 10, 11, 12, 13, 14, 15, 16, 17, 18, 19, 20, 21, 22, 23, 24, 25, 26, 27, 28, 29, 30, 31, 32, 33, 34, 35, 36, 85, 71, 72, 40, 73, 74, 86, 87, 88, 89, 131, 132, 133, 134, 135, 136, 137, 138, 139, 140, 141, 142, 143, 144, 145, 146] (by decide +kernel) (by decide +kernel)) (goodIn_sub (fun _ h => List.mem_cons_of_mem _ (List.mem_append_right _ h)) (by decide +kernel))) (goodIn_sub (fun _ h => List.mem_cons_of_mem _ (List.mem_append_left _ (List.mem_append_right _ h))) (by decide +kernel))
set_option maxRecDepth 20000 in
theorem gL_sound_X5_slips : GoodIn wsL_sound (wsV RL 55 RX5 yX5_slips wsX5_slips) := goodIn_app (goodIn_of _ (by decide +kernel)) ggL_sound_X5_slips
set_option maxRecDepth 20000 in
theorem ggL_sound_X5_worth : GoodIn wsL_sound wsX5_worth := goodIn_ca (goodIn_r _ [93, 6, 7, 8, 4, 9, 10, 11, 12, 13, 14, 15, 16, 17, 18, 19, 20, 21, 22, 23, 24, 25, 26, 27, 28, 29, 30, 31, 32, 33, 34, 35, 36, 37, 38, 39, 40, 41, 42, 43, 44, 45, 46, 47, 48, 49, 50, 51, 52, 53, 54, 55, 56, 57, 58, 59, 60, 61, 62, 63, 64, 65, 66, 67, 68, 69, 70, 71, 72, 73, 74, 131, 132, 133, 134, 135, 136, 137, 138, 139, 140, 141, 142, 143, 144, 145, 146, 147, 148, 149] (by decide +kernel) (by decide +kernel)) (goodIn_sub (fun _ h => List.mem_cons_of_mem _ (List.mem_append_left _ (List.mem_append_right _ h))) (by decide +kernel))
set_option maxRecDepth 20000 in
theorem gL_sound_X5_worth : GoodIn wsL_sound (wsV RL 81 RX5 yX5_worth wsX5_worth) := goodIn_app (goodIn_of _ (by decide +kernel)) ggL_sound_X5_worth
set_option maxRecDepth 20000 in
theorem ggL_sound_X5_at : GoodIn wsL_sound wsX5_at := goodIn_ca (goodIn_r _ [97, 10, 11, 12, 13, 14, 15, 16, 17, 18, 19, 20, 21, 22, 23, 24, 25, 26, 27, 28, 29, 30, 31, 32, 33, 34, 35, 36, 37, 38, 39, 40, 41, 42, 43, 44, 45, 46, 47, 48, 49, 50, 51, 52, 53, 54, 55, 56, 57, 58, 59, 60, 61, 62, 63, 64, 65, 66, 67, 68, 69, 70, 71, 72, 73, 74, 75, 76, 77, 4, 78, 131, 132, 133, 134, 135, 136, 137, 138, 139, 140, 141, 142, 143, 144, 145, 146, 147, 148, 149] (by decide +kernel) (by decide +kernel)) (goodIn_sub (fun _ h => List.mem_cons_of_mem _ (List.mem_append_left _ (List.mem_append_right _ h))) (by decide +kernel))
set_option maxRecDepth 20000 in
theorem gL_sound_X5_at : GoodIn wsL_sound (wsV RL 87 RX5 yX5_at wsX5_at) := goodIn_app (goodIn_of _ (by decide +kernel)) ggL_sound_X5_at
set_option maxRecDepth 20000 in
theorem ggL_sound_X5_grade : GoodIn wsL_sound wsX5_grade := goodIn_ca (goodIn_r _ [101, 102, 6, 7, 8, 4, 9, 10, 11, 12, 13, 14, 15, 16, 17, 18, 19, 20, 21, 22, 23, 24, 25, 26, 27, 28, 29, 30, 31, 32, 33, 34, 35, 36, 103, 45, 46, 47, 48, 49, 50, 51, 52, 53, 54, 55, 56, 57, 58, 59, 60, 61, 62, 63, 64, 140, 141, 142, 143, 144, 145, 146, 131, 132, 133, 134, 135, 136, 137, 138, 139, 147, 148, 149] (by decide +kernel) (by decide +kernel)) (goodIn_sub (fun _ h => List.mem_cons_of_mem _ (List.mem_append_left _ (List.mem_append_right _ h))) (by decide +kernel))
set_option maxRecDepth 20000 in
theorem gL_sound_X5_grade : GoodIn wsL_sound (wsV RL 66 RX5 yX5_grade wsX5_grade) := goodIn_app (goodIn_of _ (by decide +kernel)) ggL_sound_X5_grade
set_option maxRecDepth 20000 in
theorem ggL_sound_X5_lacks : GoodIn wsL_sound wsX5_lacks := goodIn_ca (goodIn_r _ [107, 102, 6, 7, 8, 4, 9, 10, 11, 12, 13, 14, 15, 16, 17, 18, 19, 20, 21, 22, 23, 24, 25, 26, 27, 28, 29, 30, 31, 32, 33, 34, 35, 36, 108, 59, 60, 47, 61, 57, 49, 62, 63, 52, 64, 140, 141, 142, 143, 144, 145, 146, 131, 132, 133, 134, 135, 136, 137, 138, 139, 147, 148, 149] (by decide +kernel) (by decide +kernel)) (goodIn_sub (fun _ h => List.mem_cons_of_mem _ (List.mem_append_left _ (List.mem_append_right _ h))) (by decide +kernel))
set_option maxRecDepth 20000 in
theorem gL_sound_X5_lacks : GoodIn wsL_sound (wsV RL 69 RX5 yX5_lacks wsX5_lacks) := goodIn_app (goodIn_of _ (by decide +kernel)) ggL_sound_X5_lacks
set_option maxRecDepth 20000 in
theorem ggL_sound_X5_orderAnew : GoodIn wsL_sound wsX5_orderAnew := goodIn_ca (goodIn_r _ [112, 6, 7, 8, 4, 9, 10, 11, 12, 13, 14, 15, 16, 17, 18, 19, 20, 21, 22, 23, 24, 25, 26, 27, 28, 29, 30, 31, 32, 33, 34, 35, 36, 113, 114, 115, 40, 116, 117, 118, 51, 52, 53, 119, 120, 121, 122, 123, 124, 125, 126, 127, 128, 129, 130, 131, 132, 133, 134, 135, 136, 137, 138, 139, 140, 141, 142, 143, 144, 145, 146] (by decide +kernel) (by decide +kernel)) (goodIn_sub (fun _ h => List.mem_cons_of_mem _ (List.mem_append_left _ (List.mem_append_right _ h))) (by decide +kernel))
set_option maxRecDepth 20000 in
theorem gL_sound_X5_orderAnew : GoodIn wsL_sound (wsV RL 58 RX5 yX5_orderAnew wsX5_orderAnew) := goodIn_app (goodIn_of _ (by decide +kernel)) ggL_sound_X5_orderAnew
theorem dL_sound_0 : decode cL_sound 0 = .ok (.iconst 0, 1) := by decide +kernel
theorem dL_sound_1 : decode cL_sound 1 = .ok (.istore_n 2, 1) := by decide +kernel
theorem dL_sound_2 : decode cL_sound 2 = .ok (.iconst 1, 1) := by decide +kernel
theorem dL_sound_3 : decode cL_sound 3 = .ok (.istore_n 3, 1) := by decide +kernel
theorem dL_sound_4 : decode cL_sound 4 = .ok (.iconst 0, 1) := by decide +kernel
theorem dL_sound_5 : decode cL_sound 5 = .ok (.istore 4, 2) := by decide +kernel
theorem dL_sound_7 : decode cL_sound 7 = .ok (.iload 4, 2) := by decide +kernel
theorem dL_sound_9 : decode cL_sound 9 = .ok (.aload_n 1, 1) := by decide +kernel
theorem dL_sound_10 : decode cL_sound 10 = .ok (.iconst 2, 1) := by decide +kernel
theorem dL_sound_11 : decode cL_sound 11 = .ok (.iaload, 1) := by decide +kernel
theorem dL_sound_12 : decode cL_sound 12 = .ok (.if_icmp .ge 180, 3) := by decide +kernel
theorem dL_sound_15 : decode cL_sound 15 = .ok (.iload_n 3, 1) := by decide +kernel
theorem dL_sound_16 : decode cL_sound 16 = .ok (.ifCond .eq 176, 3) := by decide +kernel
theorem dL_sound_19 : decode cL_sound 19 = .ok (.aload_n 0, 1) := by decide +kernel
theorem dL_sound_20 : decode cL_sound 20 = .ok (.iload 4, 2) := by decide +kernel
theorem dL_sound_22 : decode cL_sound 22 = .ok (.invokevirtual 84, 3) := by decide +kernel
theorem dL_sound_25 : decode cL_sound 25 = .ok (.istore 5, 2) := by decide +kernel
theorem dL_sound_27 : decode cL_sound 27 = .ok (.iconst 0, 1) := by decide +kernel
theorem dL_sound_28 : decode cL_sound 28 = .ok (.istore 6, 2) := by decide +kernel
theorem dL_sound_30 : decode cL_sound 30 = .ok (.iconst 0, 1) := by decide +kernel
theorem dL_sound_31 : decode cL_sound 31 = .ok (.istore 7, 2) := by decide +kernel
theorem dL_sound_33 : decode cL_sound 33 = .ok (.iload 7, 2) := by decide +kernel
theorem dL_sound_35 : decode cL_sound 35 = .ok (.iconst 5, 1) := by decide +kernel
theorem dL_sound_36 : decode cL_sound 36 = .ok (.if_icmp .ge 22, 3) := by decide +kernel
theorem dL_sound_39 : decode cL_sound 39 = .ok (.iload 6, 2) := by decide +kernel
theorem dL_sound_41 : decode cL_sound 41 = .ok (.aload_n 0, 1) := by decide +kernel
theorem dL_sound_42 : decode cL_sound 42 = .ok (.iload 4, 2) := by decide +kernel
theorem dL_sound_44 : decode cL_sound 44 = .ok (.iload 7, 2) := by decide +kernel
theorem dL_sound_46 : decode cL_sound 46 = .ok (.invokevirtual 55, 3) := by decide +kernel
theorem dL_sound_49 : decode cL_sound 49 = .ok (.iadd, 1) := by decide +kernel
theorem dL_sound_50 : decode cL_sound 50 = .ok (.istore 6, 2) := by decide +kernel
theorem dL_sound_52 : decode cL_sound 52 = .ok (.iinc 7 1, 3) := by decide +kernel
theorem dL_sound_55 : decode cL_sound 55 = .ok (.goto (-22), 3) := by decide +kernel
theorem dL_sound_58 : decode cL_sound 58 = .ok (.iload_n 2, 1) := by decide +kernel
theorem dL_sound_59 : decode cL_sound 59 = .ok (.iload 5, 2) := by decide +kernel
theorem dL_sound_61 : decode cL_sound 61 = .ok (.iconst (-1), 1) := by decide +kernel
theorem dL_sound_62 : decode cL_sound 62 = .ok (.if_icmp .ne 7, 3) := by decide +kernel
theorem dL_sound_65 : decode cL_sound 65 = .ok (.iconst 0, 1) := by decide +kernel
theorem dL_sound_66 : decode cL_sound 66 = .ok (.goto 4, 3) := by decide +kernel
theorem dL_sound_69 : decode cL_sound 69 = .ok (.iconst 1, 1) := by decide +kernel
theorem dL_sound_70 : decode cL_sound 70 = .ok (.iadd, 1) := by decide +kernel
theorem dL_sound_71 : decode cL_sound 71 = .ok (.istore_n 2, 1) := by decide +kernel
theorem dL_sound_72 : decode cL_sound 72 = .ok (.iload 6, 2) := by decide +kernel
theorem dL_sound_74 : decode cL_sound 74 = .ok (.aload_n 0, 1) := by decide +kernel
theorem dL_sound_75 : decode cL_sound 75 = .ok (.iload 4, 2) := by decide +kernel
theorem dL_sound_77 : decode cL_sound 77 = .ok (.iconst 5, 1) := by decide +kernel
theorem dL_sound_78 : decode cL_sound 78 = .ok (.invokevirtual 55, 3) := by decide +kernel
theorem dL_sound_81 : decode cL_sound 81 = .ok (.if_icmp .ne 103, 3) := by decide +kernel
theorem dL_sound_84 : decode cL_sound 84 = .ok (.iload 5, 2) := by decide +kernel
theorem dL_sound_86 : decode cL_sound 86 = .ok (.iconst (-1), 1) := by decide +kernel
theorem dL_sound_87 : decode cL_sound 87 = .ok (.if_icmp .ne 7, 3) := by decide +kernel
theorem dL_sound_90 : decode cL_sound 90 = .ok (.iconst 1, 1) := by decide +kernel
theorem dL_sound_91 : decode cL_sound 91 = .ok (.goto 4, 3) := by decide +kernel
theorem dL_sound_94 : decode cL_sound 94 = .ok (.iconst 0, 1) := by decide +kernel
theorem dL_sound_95 : decode cL_sound 95 = .ok (.aload_n 0, 1) := by decide +kernel
theorem dL_sound_96 : decode cL_sound 96 = .ok (.iload 4, 2) := by decide +kernel
theorem dL_sound_98 : decode cL_sound 98 = .ok (.invokevirtual 81, 3) := by decide +kernel
theorem dL_sound_101 : decode cL_sound 101 = .ok (.sipush (-9999), 3) := by decide +kernel
theorem dL_sound_104 : decode cL_sound 104 = .ok (.if_icmp .ne 7, 3) := by decide +kernel
theorem dL_sound_107 : decode cL_sound 107 = .ok (.iconst 1, 1) := by decide +kernel
theorem dL_sound_108 : decode cL_sound 108 = .ok (.goto 4, 3) := by decide +kernel
theorem dL_sound_111 : decode cL_sound 111 = .ok (.iconst 0, 1) := by decide +kernel
theorem dL_sound_112 : decode cL_sound 112 = .ok (.if_icmp .ne 72, 3) := by decide +kernel
theorem dL_sound_115 : decode cL_sound 115 = .ok (.iload 5, 2) := by decide +kernel
theorem dL_sound_117 : decode cL_sound 117 = .ok (.iconst (-1), 1) := by decide +kernel
theorem dL_sound_118 : decode cL_sound 118 = .ok (.if_icmp .eq 14, 3) := by decide +kernel
theorem dL_sound_121 : decode cL_sound 121 = .ok (.aload_n 0, 1) := by decide +kernel
theorem dL_sound_122 : decode cL_sound 122 = .ok (.iload 5, 2) := by decide +kernel
theorem dL_sound_124 : decode cL_sound 124 = .ok (.invokevirtual 87, 3) := by decide +kernel
theorem dL_sound_127 : decode cL_sound 127 = .ok (.iload 4, 2) := by decide +kernel
theorem dL_sound_129 : decode cL_sound 129 = .ok (.if_icmp .ne 55, 3) := by decide +kernel
theorem dL_sound_132 : decode cL_sound 132 = .ok (.aload_n 0, 1) := by decide +kernel
theorem dL_sound_133 : decode cL_sound 133 = .ok (.iload 4, 2) := by decide +kernel
theorem dL_sound_135 : decode cL_sound 135 = .ok (.invokevirtual 66, 3) := by decide +kernel
theorem dL_sound_138 : decode cL_sound 138 = .ok (.iconst (-1), 1) := by decide +kernel
theorem dL_sound_139 : decode cL_sound 139 = .ok (.if_icmp .ne 7, 3) := by decide +kernel
theorem dL_sound_142 : decode cL_sound 142 = .ok (.iconst 1, 1) := by decide +kernel
theorem dL_sound_143 : decode cL_sound 143 = .ok (.goto 4, 3) := by decide +kernel
theorem dL_sound_146 : decode cL_sound 146 = .ok (.iconst 0, 1) := by decide +kernel
theorem dL_sound_147 : decode cL_sound 147 = .ok (.aload_n 0, 1) := by decide +kernel
theorem dL_sound_148 : decode cL_sound 148 = .ok (.iload 4, 2) := by decide +kernel
theorem dL_sound_150 : decode cL_sound 150 = .ok (.invokevirtual 69, 3) := by decide +kernel
theorem dL_sound_153 : decode cL_sound 153 = .ok (.ifCond .le 7, 3) := by decide +kernel
theorem dL_sound_156 : decode cL_sound 156 = .ok (.iconst 1, 1) := by decide +kernel
theorem dL_sound_157 : decode cL_sound 157 = .ok (.goto 4, 3) := by decide +kernel
theorem dL_sound_160 : decode cL_sound 160 = .ok (.iconst 0, 1) := by decide +kernel
theorem dL_sound_161 : decode cL_sound 161 = .ok (.if_icmp .ne 23, 3) := by decide +kernel
theorem dL_sound_164 : decode cL_sound 164 = .ok (.aload_n 0, 1) := by decide +kernel
theorem dL_sound_165 : decode cL_sound 165 = .ok (.iload 4, 2) := by decide +kernel
theorem dL_sound_167 : decode cL_sound 167 = .ok (.invokevirtual 58, 3) := by decide +kernel
theorem dL_sound_170 : decode cL_sound 170 = .ok (.aload_n 0, 1) := by decide +kernel
theorem dL_sound_171 : decode cL_sound 171 = .ok (.iload 4, 2) := by decide +kernel
theorem dL_sound_173 : decode cL_sound 173 = .ok (.iconst 3, 1) := by decide +kernel
theorem dL_sound_174 : decode cL_sound 174 = .ok (.invokevirtual 55, 3) := by decide +kernel
theorem dL_sound_177 : decode cL_sound 177 = .ok (.if_icmp .ne 7, 3) := by decide +kernel
theorem dL_sound_180 : decode cL_sound 180 = .ok (.iconst 1, 1) := by decide +kernel
theorem dL_sound_181 : decode cL_sound 181 = .ok (.goto 4, 3) := by decide +kernel
theorem dL_sound_184 : decode cL_sound 184 = .ok (.iconst 0, 1) := by decide +kernel
theorem dL_sound_185 : decode cL_sound 185 = .ok (.istore_n 3, 1) := by decide +kernel
theorem dL_sound_186 : decode cL_sound 186 = .ok (.iinc 4 1, 3) := by decide +kernel
theorem dL_sound_189 : decode cL_sound 189 = .ok (.goto (-182), 3) := by decide +kernel
theorem dL_sound_192 : decode cL_sound 192 = .ok (.iconst 2, 1) := by decide +kernel
theorem dL_sound_193 : decode cL_sound 193 = .ok (.istore 4, 2) := by decide +kernel
theorem dL_sound_195 : decode cL_sound 195 = .ok (.iload 4, 2) := by decide +kernel
theorem dL_sound_197 : decode cL_sound 197 = .ok (.iload_n 2, 1) := by decide +kernel
theorem dL_sound_198 : decode cL_sound 198 = .ok (.if_icmp .gt 61, 3) := by decide +kernel
theorem dL_sound_201 : decode cL_sound 201 = .ok (.iload_n 3, 1) := by decide +kernel
theorem dL_sound_202 : decode cL_sound 202 = .ok (.ifCond .eq 57, 3) := by decide +kernel
theorem dL_sound_205 : decode cL_sound 205 = .ok (.aload_n 0, 1) := by decide +kernel
theorem dL_sound_206 : decode cL_sound 206 = .ok (.aload_n 0, 1) := by decide +kernel
theorem dL_sound_207 : decode cL_sound 207 = .ok (.iload 4, 2) := by decide +kernel
theorem dL_sound_209 : decode cL_sound 209 = .ok (.iconst 1, 1) := by decide +kernel
theorem dL_sound_210 : decode cL_sound 210 = .ok (.isub, 1) := by decide +kernel
theorem dL_sound_211 : decode cL_sound 211 = .ok (.invokevirtual 87, 3) := by decide +kernel
theorem dL_sound_214 : decode cL_sound 214 = .ok (.invokevirtual 81, 3) := by decide +kernel
theorem dL_sound_217 : decode cL_sound 217 = .ok (.aload_n 0, 1) := by decide +kernel
theorem dL_sound_218 : decode cL_sound 218 = .ok (.aload_n 0, 1) := by decide +kernel
theorem dL_sound_219 : decode cL_sound 219 = .ok (.iload 4, 2) := by decide +kernel
theorem dL_sound_221 : decode cL_sound 221 = .ok (.invokevirtual 87, 3) := by decide +kernel
theorem dL_sound_224 : decode cL_sound 224 = .ok (.invokevirtual 81, 3) := by decide +kernel
theorem dL_sound_227 : decode cL_sound 227 = .ok (.if_icmp .lt 24, 3) := by decide +kernel
theorem dL_sound_230 : decode cL_sound 230 = .ok (.aload_n 0, 1) := by decide +kernel
theorem dL_sound_231 : decode cL_sound 231 = .ok (.iload 4, 2) := by decide +kernel
theorem dL_sound_233 : decode cL_sound 233 = .ok (.iconst 1, 1) := by decide +kernel
theorem dL_sound_234 : decode cL_sound 234 = .ok (.isub, 1) := by decide +kernel
theorem dL_sound_235 : decode cL_sound 235 = .ok (.invokevirtual 87, 3) := by decide +kernel
theorem dL_sound_238 : decode cL_sound 238 = .ok (.aload_n 0, 1) := by decide +kernel
theorem dL_sound_239 : decode cL_sound 239 = .ok (.iload 4, 2) := by decide +kernel
theorem dL_sound_241 : decode cL_sound 241 = .ok (.invokevirtual 87, 3) := by decide +kernel
theorem dL_sound_244 : decode cL_sound 244 = .ok (.if_icmp .eq 7, 3) := by decide +kernel
theorem dL_sound_247 : decode cL_sound 247 = .ok (.iconst 1, 1) := by decide +kernel
theorem dL_sound_248 : decode cL_sound 248 = .ok (.goto 4, 3) := by decide +kernel
theorem dL_sound_251 : decode cL_sound 251 = .ok (.iconst 0, 1) := by decide +kernel
theorem dL_sound_252 : decode cL_sound 252 = .ok (.istore_n 3, 1) := by decide +kernel
theorem dL_sound_253 : decode cL_sound 253 = .ok (.iinc 4 1, 3) := by decide +kernel
theorem dL_sound_256 : decode cL_sound 256 = .ok (.goto (-61), 3) := by decide +kernel
theorem dL_sound_259 : decode cL_sound 259 = .ok (.iload_n 3, 1) := by decide +kernel
theorem dL_sound_260 : decode cL_sound 260 = .ok (.ifCond .eq 18, 3) := by decide +kernel
theorem dL_sound_263 : decode cL_sound 263 = .ok (.aload_n 0, 1) := by decide +kernel
theorem dL_sound_264 : decode cL_sound 264 = .ok (.iload_n 2, 1) := by decide +kernel
theorem dL_sound_265 : decode cL_sound 265 = .ok (.iconst 1, 1) := by decide +kernel
theorem dL_sound_266 : decode cL_sound 266 = .ok (.iadd, 1) := by decide +kernel
theorem dL_sound_267 : decode cL_sound 267 = .ok (.invokevirtual 87, 3) := by decide +kernel
theorem dL_sound_270 : decode cL_sound 270 = .ok (.iconst (-1), 1) := by decide +kernel
theorem dL_sound_271 : decode cL_sound 271 = .ok (.if_icmp .ne 7, 3) := by decide +kernel
theorem dL_sound_274 : decode cL_sound 274 = .ok (.iconst 1, 1) := by decide +kernel
theorem dL_sound_275 : decode cL_sound 275 = .ok (.goto 4, 3) := by decide +kernel
theorem dL_sound_278 : decode cL_sound 278 = .ok (.iconst 0, 1) := by decide +kernel
theorem dL_sound_279 : decode cL_sound 279 = .ok (.ireturn, 1) := by decide +kernel
