set_option maxRecDepth 20000 in
theorem ggL_refused_L_all : GoodIn wsL_refused wsL_all := goodIn_ca (goodIn_ca (goodIn_r _ [6, 7, 8, 9, 10, 11, 12, 13, 14, 15, 16, 17, 18, 19, 20, 21, 22, 23, 24, 25, 26, 27, 28, 29, 30, 31, 32, 33, 34, 35, 36, 37, 38, 39, 40, 41, 42, 43, 44, 45, 46, 47, 48, 49, 50, 51, 52, 53, 54, 55, 56, 57, 58, 59, 60, 61, 62, 63, 64, 65, 66, 67, 68, 69, 70, 71, 72, 73, 74, 75, 76, 77, 78, 79, 80, 81, 82, 83, 84, 85, 86, 87, 88, 89, 90, 91, 92, 93, 94, 95, 96, 97, 98, 99, 100, 101, 102, 103, 104, 105, 106, 107, 108, 109, 110, 111, 112, 113, 114, 115, 116, 117, 118, 119, 120, 121, 122, 123, 124, 125, 126, 127, 128, 129, 130, 131, 132, 133, 134, 135, 136, 137, 138, 139, 140, 141, 142, 143, 144, 145, 146, 147, 148, 149, 150, 151, 152, 153, 154, 155, 156, 157, 158, 159, 160, 161, 162, 163, 164, 165, 166, 167, 168, 169, 170, 171, 172, 419, 420, 421, 422, 423, 424, 425, 426, 427, 428, 429, 430, 431, 432, 433, 434, 435, 436, 437, 438, 439, 440, 441] (by decide +kernel) (by decide +kernel)) (goodIn_sub (fun _ h => List.mem_cons_of_mem _ (List.mem_append_left _ (List.mem_append_left _ (List.mem_append_right _ h)))) (by decide +kernel))) (goodIn_sub (fun _ h => List.mem_cons_of_mem _ (List.mem_append_left _ (List.mem_append_right _ h))) (by decide +kernel))
set_option maxRecDepth 20000 in
theorem gL_refused_L_all : GoodIn wsL_refused (va_wsS RL 109 yL_all wsL_all) := goodIn_app (goodIn_of _ (by decide +kernel)) ggL_refused_L_all
set_option maxRecDepth 20000 in
theorem ggL_refused_L_call : GoodIn wsL_refused wsL_call := goodIn_ca (goodIn_ca (goodIn_ca (goodIn_r _ [175, 176, 177, 178, 1, 2, 179, 180, 181, 5, 182, 183, 184, 185, 14, 186, 73, 74, 187, 188, 189, 190, 191, 192, 16, 17, 193, 194, 195, 50, 196, 52, 197, 198, 199, 200, 201, 202, 203, 53, 204, 205, 206, 207, 208, 209, 210, 211, 212, 213, 214, 215, 22, 216, 217, 218, 219, 220, 221, 222, 223, 224, 225, 226, 227, 228, 229, 24, 25, 26, 27, 28, 29, 230, 231, 232, 233, 234, 235, 236, 237, 238, 239, 240, 241, 242, 48, 49, 51, 243, 244, 245, 246, 247, 248, 249, 46, 250, 251, 252, 253, 254, 255, 256, 257, 258, 259, 260, 261, 262, 263, 107, 104, 108, 264, 265, 266, 267, 268, 269, 270, 271, 272, 273, 274, 275, 276, 277, 278, 279, 280, 281, 282, 283, 284, 285, 286, 287, 103, 105, 288, 289, 290, 291, 11, 12, 13, 15, 18, 19, 20, 21, 23, 30, 31, 32, 33, 34, 35, 36, 37, 38, 39, 40, 41, 42, 43, 44, 45, 47, 292, 293, 294, 295, 296, 297, 298, 299, 300, 301, 302, 303, 304, 305, 306, 307, 308, 309, 310, 311, 312, 313, 314, 315, 316, 58, 59, 60, 61, 317, 318, 319, 65, 320, 67, 68, 62, 63, 64, 66, 54, 55, 56, 57, 321, 322, 323, 324, 79, 325, 326, 327, 328, 84, 329, 330, 331, 332, 333, 334, 335, 336, 337, 338, 339, 340, 341, 342, 343, 344, 345, 346, 99, 130, 131, 86, 137, 161, 155, 347, 348, 349, 350, 351, 101, 109, 352, 353, 354, 355, 356, 357, 358, 359, 360, 361, 362, 363, 364, 365, 366, 367, 368, 369, 370, 371, 69, 70, 71, 72, 75, 76, 77, 78, 80, 81, 82, 83, 85, 87, 88, 89, 90, 147, 148, 149, 150, 151, 152, 153, 154, 156, 157, 158, 159, 160, 162, 163, 164, 165, 166, 167, 168, 372, 373, 374, 375, 95, 376, 377, 378, 379, 380, 381, 382, 383, 121, 111, 112, 113, 114, 115, 116, 384, 385, 386, 387, 388, 389, 390, 391, 91, 92, 93, 94, 96, 97, 98, 100, 102, 106, 110, 117, 118, 119, 120, 392, 393, 394, 395, 396, 397, 398, 399, 400, 401, 402, 403, 404, 405, 406, 407, 408, 409, 410, 411, 412, 413, 414, 415, 416, 417, 418, 134, 135, 136, 122, 123, 124, 125, 126, 127, 128, 129, 132, 133, 138, 139, 140, 141, 142, 143, 144, 145, 146, 169, 170, 171, 172, 419, 420, 421, 422, 423, 424, 428, 429, 425, 426, 427, 442, 443, 444, 430, 431, 432, 433, 434, 435, 436, 437, 438, 439, 440, 441] (by decide +kernel) (by decide +kernel)) (goodIn_sub (fun _ h => List.mem_cons_of_mem _ (List.mem_append_left _ (List.mem_append_right _ h))) (by decide +kernel))) (goodIn_sub (fun _ h => List.mem_cons_of_mem _ (List.mem_append_right _ h)) (by decide +kernel))) (goodIn_sub (fun _ h => List.mem_cons_of_mem _ (List.mem_append_left _ (List.mem_append_left _ (List.mem_append_right _ h)))) (by decide +kernel))
set_option maxRecDepth 20000 in
theorem gL_refused_L_call : GoodIn wsL_refused (va_wsS RL 98 yL_call wsL_call) := goodIn_app (goodIn_of _ (by decide +kernel)) ggL_refused_L_call
theorem dL_refused_0 : decode cL_refused 0 = .ok (.aload_n 0, 1) := by decide +kernel
theorem dL_refused_1 : decode cL_refused 1 = .ok (.aload_n 1, 1) := by decide +kernel
theorem dL_refused_2 : decode cL_refused 2 = .ok (.invokestatic 109, 3) := by decide +kernel
theorem dL_refused_5 : decode cL_refused 5 = .ok (.lstore_n 2, 1) := by decide +kernel
theorem dL_refused_6 : decode cL_refused 6 = .ok (.aload_n 0, 1) := by decide +kernel
theorem dL_refused_7 : decode cL_refused 7 = .ok (.iconst 0, 1) := by decide +kernel
theorem dL_refused_8 : decode cL_refused 8 = .ok (.iconst (-1), 1) := by decide +kernel
theorem dL_refused_9 : decode cL_refused 9 = .ok (.iconst 0, 1) := by decide +kernel
theorem dL_refused_10 : decode cL_refused 10 = .ok (.iconst 0, 1) := by decide +kernel
theorem dL_refused_11 : decode cL_refused 11 = .ok (.invokestatic 98, 3) := by decide +kernel
theorem dL_refused_14 : decode cL_refused 14 = .ok (.ldc 17, 2) := by decide +kernel
theorem dL_refused_16 : decode cL_refused 16 = .ok (.if_icmp .ne 189, 3) := by decide +kernel
theorem dL_refused_19 : decode cL_refused 19 = .ok (.aload_n 0, 1) := by decide +kernel
theorem dL_refused_20 : decode cL_refused 20 = .ok (.iconst 0, 1) := by decide +kernel
theorem dL_refused_21 : decode cL_refused 21 = .ok (.iconst 3, 1) := by decide +kernel
theorem dL_refused_22 : decode cL_refused 22 = .ok (.iconst 3, 1) := by decide +kernel
theorem dL_refused_23 : decode cL_refused 23 = .ok (.iconst 0, 1) := by decide +kernel
theorem dL_refused_24 : decode cL_refused 24 = .ok (.invokestatic 98, 3) := by decide +kernel
theorem dL_refused_27 : decode cL_refused 27 = .ok (.ldc 20, 2) := by decide +kernel
theorem dL_refused_29 : decode cL_refused 29 = .ok (.if_icmp .ne 176, 3) := by decide +kernel
theorem dL_refused_32 : decode cL_refused 32 = .ok (.aload_n 0, 1) := by decide +kernel
theorem dL_refused_33 : decode cL_refused 33 = .ok (.iconst 3, 1) := by decide +kernel
theorem dL_refused_34 : decode cL_refused 34 = .ok (.bipush 10, 2) := by decide +kernel
theorem dL_refused_36 : decode cL_refused 36 = .ok (.iconst 0, 1) := by decide +kernel
theorem dL_refused_37 : decode cL_refused 37 = .ok (.iconst 0, 1) := by decide +kernel
theorem dL_refused_38 : decode cL_refused 38 = .ok (.invokestatic 98, 3) := by decide +kernel
theorem dL_refused_41 : decode cL_refused 41 = .ok (.ldc 17, 2) := by decide +kernel
theorem dL_refused_43 : decode cL_refused 43 = .ok (.if_icmp .ne 162, 3) := by decide +kernel
theorem dL_refused_46 : decode cL_refused 46 = .ok (.aload_n 0, 1) := by decide +kernel
theorem dL_refused_47 : decode cL_refused 47 = .ok (.iconst 4, 1) := by decide +kernel
theorem dL_refused_48 : decode cL_refused 48 = .ok (.iconst (-1), 1) := by decide +kernel
theorem dL_refused_49 : decode cL_refused 49 = .ok (.iconst 5, 1) := by decide +kernel
theorem dL_refused_50 : decode cL_refused 50 = .ok (.iconst 0, 1) := by decide +kernel
theorem dL_refused_51 : decode cL_refused 51 = .ok (.invokestatic 98, 3) := by decide +kernel
theorem dL_refused_54 : decode cL_refused 54 = .ok (.ldc 17, 2) := by decide +kernel
theorem dL_refused_56 : decode cL_refused 56 = .ok (.if_icmp .ne 149, 3) := by decide +kernel
theorem dL_refused_59 : decode cL_refused 59 = .ok (.aload_n 0, 1) := by decide +kernel
theorem dL_refused_60 : decode cL_refused 60 = .ok (.iconst 4, 1) := by decide +kernel
theorem dL_refused_61 : decode cL_refused 61 = .ok (.iconst 0, 1) := by decide +kernel
theorem dL_refused_62 : decode cL_refused 62 = .ok (.iconst 4, 1) := by decide +kernel
theorem dL_refused_63 : decode cL_refused 63 = .ok (.iconst 0, 1) := by decide +kernel
theorem dL_refused_64 : decode cL_refused 64 = .ok (.invokestatic 98, 3) := by decide +kernel
theorem dL_refused_67 : decode cL_refused 67 = .ok (.ldc 20, 2) := by decide +kernel
theorem dL_refused_69 : decode cL_refused 69 = .ok (.if_icmp .ne 136, 3) := by decide +kernel
theorem dL_refused_72 : decode cL_refused 72 = .ok (.aload_n 0, 1) := by decide +kernel
theorem dL_refused_73 : decode cL_refused 73 = .ok (.iconst 5, 1) := by decide +kernel
theorem dL_refused_74 : decode cL_refused 74 = .ok (.iconst (-1), 1) := by decide +kernel
theorem dL_refused_75 : decode cL_refused 75 = .ok (.iconst 0, 1) := by decide +kernel
theorem dL_refused_76 : decode cL_refused 76 = .ok (.iconst 1, 1) := by decide +kernel
theorem dL_refused_77 : decode cL_refused 77 = .ok (.invokestatic 98, 3) := by decide +kernel
theorem dL_refused_80 : decode cL_refused 80 = .ok (.ldc 17, 2) := by decide +kernel
theorem dL_refused_82 : decode cL_refused 82 = .ok (.if_icmp .ne 123, 3) := by decide +kernel
theorem dL_refused_85 : decode cL_refused 85 = .ok (.aload_n 0, 1) := by decide +kernel
theorem dL_refused_86 : decode cL_refused 86 = .ok (.iconst 5, 1) := by decide +kernel
theorem dL_refused_87 : decode cL_refused 87 = .ok (.iconst 0, 1) := by decide +kernel
theorem dL_refused_88 : decode cL_refused 88 = .ok (.iconst 0, 1) := by decide +kernel
theorem dL_refused_89 : decode cL_refused 89 = .ok (.iconst 0, 1) := by decide +kernel
theorem dL_refused_90 : decode cL_refused 90 = .ok (.invokestatic 98, 3) := by decide +kernel
theorem dL_refused_93 : decode cL_refused 93 = .ok (.ldc 20, 2) := by decide +kernel
theorem dL_refused_95 : decode cL_refused 95 = .ok (.if_icmp .ne 110, 3) := by decide +kernel
theorem dL_refused_98 : decode cL_refused 98 = .ok (.aload_n 0, 1) := by decide +kernel
theorem dL_refused_99 : decode cL_refused 99 = .ok (.bipush 6, 2) := by decide +kernel
theorem dL_refused_101 : decode cL_refused 101 = .ok (.iconst 3, 1) := by decide +kernel
theorem dL_refused_102 : decode cL_refused 102 = .ok (.iconst 0, 1) := by decide +kernel
theorem dL_refused_103 : decode cL_refused 103 = .ok (.iconst 0, 1) := by decide +kernel
theorem dL_refused_104 : decode cL_refused 104 = .ok (.invokestatic 98, 3) := by decide +kernel
theorem dL_refused_107 : decode cL_refused 107 = .ok (.ldc 17, 2) := by decide +kernel
theorem dL_refused_109 : decode cL_refused 109 = .ok (.if_icmp .ne 96, 3) := by decide +kernel
theorem dL_refused_112 : decode cL_refused 112 = .ok (.aload_n 0, 1) := by decide +kernel
theorem dL_refused_113 : decode cL_refused 113 = .ok (.bipush 7, 2) := by decide +kernel
theorem dL_refused_115 : decode cL_refused 115 = .ok (.bipush 20, 2) := by decide +kernel
theorem dL_refused_117 : decode cL_refused 117 = .ok (.iconst 0, 1) := by decide +kernel
theorem dL_refused_118 : decode cL_refused 118 = .ok (.iconst 0, 1) := by decide +kernel
theorem dL_refused_119 : decode cL_refused 119 = .ok (.invokestatic 98, 3) := by decide +kernel
theorem dL_refused_122 : decode cL_refused 122 = .ok (.ldc 17, 2) := by decide +kernel
theorem dL_refused_124 : decode cL_refused 124 = .ok (.if_icmp .ne 81, 3) := by decide +kernel
theorem dL_refused_127 : decode cL_refused 127 = .ok (.aload_n 0, 1) := by decide +kernel
theorem dL_refused_128 : decode cL_refused 128 = .ok (.bipush 7, 2) := by decide +kernel
theorem dL_refused_130 : decode cL_refused 130 = .ok (.iconst 0, 1) := by decide +kernel
theorem dL_refused_131 : decode cL_refused 131 = .ok (.bipush 10, 2) := by decide +kernel
theorem dL_refused_133 : decode cL_refused 133 = .ok (.iconst 0, 1) := by decide +kernel
theorem dL_refused_134 : decode cL_refused 134 = .ok (.invokestatic 98, 3) := by decide +kernel
theorem dL_refused_137 : decode cL_refused 137 = .ok (.ldc 17, 2) := by decide +kernel
theorem dL_refused_139 : decode cL_refused 139 = .ok (.if_icmp .ne 66, 3) := by decide +kernel
theorem dL_refused_142 : decode cL_refused 142 = .ok (.aload_n 0, 1) := by decide +kernel
theorem dL_refused_143 : decode cL_refused 143 = .ok (.bipush 8, 2) := by decide +kernel
theorem dL_refused_145 : decode cL_refused 145 = .ok (.bipush 40, 2) := by decide +kernel
theorem dL_refused_147 : decode cL_refused 147 = .ok (.iconst 0, 1) := by decide +kernel
theorem dL_refused_148 : decode cL_refused 148 = .ok (.iconst 0, 1) := by decide +kernel
theorem dL_refused_149 : decode cL_refused 149 = .ok (.invokestatic 98, 3) := by decide +kernel
theorem dL_refused_152 : decode cL_refused 152 = .ok (.ldc 17, 2) := by decide +kernel
theorem dL_refused_154 : decode cL_refused 154 = .ok (.if_icmp .ne 51, 3) := by decide +kernel
theorem dL_refused_157 : decode cL_refused 157 = .ok (.aload_n 0, 1) := by decide +kernel
theorem dL_refused_158 : decode cL_refused 158 = .ok (.bipush 9, 2) := by decide +kernel
theorem dL_refused_160 : decode cL_refused 160 = .ok (.iconst (-1), 1) := by decide +kernel
theorem dL_refused_161 : decode cL_refused 161 = .ok (.iconst 0, 1) := by decide +kernel
theorem dL_refused_162 : decode cL_refused 162 = .ok (.iconst 0, 1) := by decide +kernel
theorem dL_refused_163 : decode cL_refused 163 = .ok (.invokestatic 98, 3) := by decide +kernel
theorem dL_refused_166 : decode cL_refused 166 = .ok (.ldc 17, 2) := by decide +kernel
theorem dL_refused_168 : decode cL_refused 168 = .ok (.if_icmp .ne 37, 3) := by decide +kernel
theorem dL_refused_171 : decode cL_refused 171 = .ok (.aload_n 0, 1) := by decide +kernel
theorem dL_refused_172 : decode cL_refused 172 = .ok (.bipush 10, 2) := by decide +kernel
theorem dL_refused_174 : decode cL_refused 174 = .ok (.bipush 6, 2) := by decide +kernel
theorem dL_refused_176 : decode cL_refused 176 = .ok (.iconst 0, 1) := by decide +kernel
theorem dL_refused_177 : decode cL_refused 177 = .ok (.iconst 0, 1) := by decide +kernel
theorem dL_refused_178 : decode cL_refused 178 = .ok (.invokestatic 98, 3) := by decide +kernel
theorem dL_refused_181 : decode cL_refused 181 = .ok (.ldc 17, 2) := by decide +kernel
theorem dL_refused_183 : decode cL_refused 183 = .ok (.if_icmp .ne 22, 3) := by decide +kernel
theorem dL_refused_186 : decode cL_refused 186 = .ok (.aload_n 0, 1) := by decide +kernel
theorem dL_refused_187 : decode cL_refused 187 = .ok (.bipush 10, 2) := by decide +kernel
theorem dL_refused_189 : decode cL_refused 189 = .ok (.iconst 0, 1) := by decide +kernel
theorem dL_refused_190 : decode cL_refused 190 = .ok (.bipush 40, 2) := by decide +kernel
theorem dL_refused_192 : decode cL_refused 192 = .ok (.iconst 0, 1) := by decide +kernel
theorem dL_refused_193 : decode cL_refused 193 = .ok (.invokestatic 98, 3) := by decide +kernel
theorem dL_refused_196 : decode cL_refused 196 = .ok (.ldc 17, 2) := by decide +kernel
theorem dL_refused_198 : decode cL_refused 198 = .ok (.if_icmp .ne 7, 3) := by decide +kernel
theorem dL_refused_201 : decode cL_refused 201 = .ok (.iconst 1, 1) := by decide +kernel
theorem dL_refused_202 : decode cL_refused 202 = .ok (.goto 4, 3) := by decide +kernel
theorem dL_refused_205 : decode cL_refused 205 = .ok (.iconst 0, 1) := by decide +kernel
theorem dL_refused_206 : decode cL_refused 206 = .ok (.istore 4, 2) := by decide +kernel
theorem dL_refused_208 : decode cL_refused 208 = .ok (.iload 4, 2) := by decide +kernel
theorem dL_refused_210 : decode cL_refused 210 = .ok (.ifCond .eq 148, 3) := by decide +kernel
theorem dL_refused_213 : decode cL_refused 213 = .ok (.aload_n 0, 1) := by decide +kernel
theorem dL_refused_214 : decode cL_refused 214 = .ok (.bipush 11, 2) := by decide +kernel
theorem dL_refused_216 : decode cL_refused 216 = .ok (.bipush 40, 2) := by decide +kernel
theorem dL_refused_218 : decode cL_refused 218 = .ok (.iconst 0, 1) := by decide +kernel
theorem dL_refused_219 : decode cL_refused 219 = .ok (.iconst 0, 1) := by decide +kernel
theorem dL_refused_220 : decode cL_refused 220 = .ok (.invokestatic 98, 3) := by decide +kernel
theorem dL_refused_223 : decode cL_refused 223 = .ok (.ldc 17, 2) := by decide +kernel
theorem dL_refused_225 : decode cL_refused 225 = .ok (.if_icmp .ne 133, 3) := by decide +kernel
theorem dL_refused_228 : decode cL_refused 228 = .ok (.aload_n 0, 1) := by decide +kernel
theorem dL_refused_229 : decode cL_refused 229 = .ok (.bipush 12, 2) := by decide +kernel
theorem dL_refused_231 : decode cL_refused 231 = .ok (.iconst (-1), 1) := by decide +kernel
theorem dL_refused_232 : decode cL_refused 232 = .ok (.iconst 0, 1) := by decide +kernel
theorem dL_refused_233 : decode cL_refused 233 = .ok (.iconst 0, 1) := by decide +kernel
theorem dL_refused_234 : decode cL_refused 234 = .ok (.invokestatic 98, 3) := by decide +kernel
theorem dL_refused_237 : decode cL_refused 237 = .ok (.ldc 17, 2) := by decide +kernel
theorem dL_refused_239 : decode cL_refused 239 = .ok (.if_icmp .ne 119, 3) := by decide +kernel
theorem dL_refused_242 : decode cL_refused 242 = .ok (.aload_n 0, 1) := by decide +kernel
theorem dL_refused_243 : decode cL_refused 243 = .ok (.bipush 13, 2) := by decide +kernel
theorem dL_refused_245 : decode cL_refused 245 = .ok (.iconst (-1), 1) := by decide +kernel
theorem dL_refused_246 : decode cL_refused 246 = .ok (.iconst 0, 1) := by decide +kernel
theorem dL_refused_247 : decode cL_refused 247 = .ok (.iconst 0, 1) := by decide +kernel
theorem dL_refused_248 : decode cL_refused 248 = .ok (.invokestatic 98, 3) := by decide +kernel
theorem dL_refused_251 : decode cL_refused 251 = .ok (.ldc 17, 2) := by decide +kernel
theorem dL_refused_253 : decode cL_refused 253 = .ok (.if_icmp .ne 105, 3) := by decide +kernel
theorem dL_refused_256 : decode cL_refused 256 = .ok (.aload_n 0, 1) := by decide +kernel
theorem dL_refused_257 : decode cL_refused 257 = .ok (.bipush 14, 2) := by decide +kernel
theorem dL_refused_259 : decode cL_refused 259 = .ok (.bipush 40, 2) := by decide +kernel
theorem dL_refused_261 : decode cL_refused 261 = .ok (.iconst 0, 1) := by decide +kernel
theorem dL_refused_262 : decode cL_refused 262 = .ok (.iconst 0, 1) := by decide +kernel
theorem dL_refused_263 : decode cL_refused 263 = .ok (.invokestatic 98, 3) := by decide +kernel
theorem dL_refused_266 : decode cL_refused 266 = .ok (.ldc 17, 2) := by decide +kernel
theorem dL_refused_268 : decode cL_refused 268 = .ok (.if_icmp .ne 90, 3) := by decide +kernel
theorem dL_refused_271 : decode cL_refused 271 = .ok (.aload_n 0, 1) := by decide +kernel
theorem dL_refused_272 : decode cL_refused 272 = .ok (.bipush 15, 2) := by decide +kernel
theorem dL_refused_274 : decode cL_refused 274 = .ok (.iconst (-1), 1) := by decide +kernel
theorem dL_refused_275 : decode cL_refused 275 = .ok (.iconst 0, 1) := by decide +kernel
theorem dL_refused_276 : decode cL_refused 276 = .ok (.iconst 0, 1) := by decide +kernel
theorem dL_refused_277 : decode cL_refused 277 = .ok (.invokestatic 98, 3) := by decide +kernel
theorem dL_refused_280 : decode cL_refused 280 = .ok (.ldc 17, 2) := by decide +kernel
theorem dL_refused_282 : decode cL_refused 282 = .ok (.if_icmp .ne 76, 3) := by decide +kernel
theorem dL_refused_285 : decode cL_refused 285 = .ok (.aload_n 0, 1) := by decide +kernel
theorem dL_refused_286 : decode cL_refused 286 = .ok (.bipush 15, 2) := by decide +kernel
theorem dL_refused_288 : decode cL_refused 288 = .ok (.iconst 0, 1) := by decide +kernel
theorem dL_refused_289 : decode cL_refused 289 = .ok (.bipush 40, 2) := by decide +kernel
theorem dL_refused_291 : decode cL_refused 291 = .ok (.iconst 0, 1) := by decide +kernel
theorem dL_refused_292 : decode cL_refused 292 = .ok (.invokestatic 98, 3) := by decide +kernel
theorem dL_refused_295 : decode cL_refused 295 = .ok (.ldc 17, 2) := by decide +kernel
theorem dL_refused_297 : decode cL_refused 297 = .ok (.if_icmp .ne 61, 3) := by decide +kernel
theorem dL_refused_300 : decode cL_refused 300 = .ok (.aload_n 0, 1) := by decide +kernel
theorem dL_refused_301 : decode cL_refused 301 = .ok (.bipush 16, 2) := by decide +kernel
theorem dL_refused_303 : decode cL_refused 303 = .ok (.bipush 40, 2) := by decide +kernel
theorem dL_refused_305 : decode cL_refused 305 = .ok (.iconst 0, 1) := by decide +kernel
theorem dL_refused_306 : decode cL_refused 306 = .ok (.iconst 0, 1) := by decide +kernel
theorem dL_refused_307 : decode cL_refused 307 = .ok (.invokestatic 98, 3) := by decide +kernel
theorem dL_refused_310 : decode cL_refused 310 = .ok (.ldc 17, 2) := by decide +kernel
theorem dL_refused_312 : decode cL_refused 312 = .ok (.if_icmp .ne 46, 3) := by decide +kernel
theorem dL_refused_315 : decode cL_refused 315 = .ok (.aload_n 0, 1) := by decide +kernel
theorem dL_refused_316 : decode cL_refused 316 = .ok (.bipush 17, 2) := by decide +kernel
theorem dL_refused_318 : decode cL_refused 318 = .ok (.bipush 40, 2) := by decide +kernel
theorem dL_refused_320 : decode cL_refused 320 = .ok (.iconst 0, 1) := by decide +kernel
theorem dL_refused_321 : decode cL_refused 321 = .ok (.iconst 0, 1) := by decide +kernel
theorem dL_refused_322 : decode cL_refused 322 = .ok (.invokestatic 98, 3) := by decide +kernel
theorem dL_refused_325 : decode cL_refused 325 = .ok (.ldc 17, 2) := by decide +kernel
theorem dL_refused_327 : decode cL_refused 327 = .ok (.if_icmp .ne 31, 3) := by decide +kernel
theorem dL_refused_330 : decode cL_refused 330 = .ok (.aload_n 0, 1) := by decide +kernel
theorem dL_refused_331 : decode cL_refused 331 = .ok (.bipush 18, 2) := by decide +kernel
theorem dL_refused_333 : decode cL_refused 333 = .ok (.iconst 0, 1) := by decide +kernel
theorem dL_refused_334 : decode cL_refused 334 = .ok (.iconst 0, 1) := by decide +kernel
theorem dL_refused_335 : decode cL_refused 335 = .ok (.iconst 0, 1) := by decide +kernel
theorem dL_refused_336 : decode cL_refused 336 = .ok (.invokestatic 98, 3) := by decide +kernel
theorem dL_refused_339 : decode cL_refused 339 = .ok (.ldc 17, 2) := by decide +kernel
theorem dL_refused_341 : decode cL_refused 341 = .ok (.if_icmp .ne 17, 3) := by decide +kernel
theorem dL_refused_344 : decode cL_refused 344 = .ok (.aload_n 0, 1) := by decide +kernel
theorem dL_refused_345 : decode cL_refused 345 = .ok (.aload_n 1, 1) := by decide +kernel
theorem dL_refused_346 : decode cL_refused 346 = .ok (.invokestatic 109, 3) := by decide +kernel
theorem dL_refused_349 : decode cL_refused 349 = .ok (.lload_n 2, 1) := by decide +kernel
theorem dL_refused_350 : decode cL_refused 350 = .ok (.lcmp, 1) := by decide +kernel
theorem dL_refused_351 : decode cL_refused 351 = .ok (.ifCond .ne 7, 3) := by decide +kernel
theorem dL_refused_354 : decode cL_refused 354 = .ok (.iconst 1, 1) := by decide +kernel
theorem dL_refused_355 : decode cL_refused 355 = .ok (.goto 4, 3) := by decide +kernel
theorem dL_refused_358 : decode cL_refused 358 = .ok (.iconst 0, 1) := by decide +kernel
theorem dL_refused_359 : decode cL_refused 359 = .ok (.ireturn, 1) := by decide +kernel
