set_option maxRecDepth 20000 in
theorem ggL_strokes_L_some : GoodIn wsL_strokes wsL_some := goodIn_r _ [6] (by decide +kernel) (by decide +kernel)
set_option maxRecDepth 20000 in
theorem gL_strokes_L_some : GoodIn wsL_strokes (va_wsS RL 102 yL_some wsL_some) := goodIn_app (goodIn_of _ (by decide +kernel)) ggL_strokes_L_some
set_option maxRecDepth 20000 in
theorem ggL_strokes_X5_strokeOf : GoodIn wsL_strokes wsX5_strokeOf := goodIn_ca (goodIn_r _ [11, 12, 13, 14, 15, 16, 10, 17, 18, 19, 20, 21, 22, 23, 24, 25, 26, 27, 28, 29, 30, 31, 32, 33, 34, 35, 36, 37, 38, 39, 40, 41, 42, 43, 44, 45, 46, 47, 48, 49, 419, 420, 421, 422, 423, 424, 425, 426, 427, 428, 429] (by decide +kernel) (by decide +kernel)) (goodIn_sub (fun _ h => List.mem_cons_of_mem _ (List.mem_append_left _ (List.mem_append_left _ (List.mem_append_right _ h)))) (by decide +kernel))
set_option maxRecDepth 20000 in
theorem gL_strokes_X5_strokeOf : GoodIn wsL_strokes (wsV RL 37 RX5 yX5_strokeOf wsX5_strokeOf) := goodIn_app (goodIn_of _ (by decide +kernel)) ggL_strokes_X5_strokeOf
set_option maxRecDepth 20000 in
theorem ggL_strokes_L_both : GoodIn wsL_strokes wsL_both := goodIn_ca (goodIn_ca (goodIn_ca (goodIn_r _ [52, 53, 54, 55, 5, 56, 57, 58, 59, 60, 1, 2, 61, 62, 63, 64, 65, 66, 10, 67, 68, 69, 70, 71, 72, 73, 74, 75, 12, 13, 76, 77, 78, 46, 79, 48, 80, 81, 82, 83, 84, 85, 86, 49, 87, 88, 89, 90, 91, 92, 93, 94, 95, 96, 97, 98, 18, 99, 100, 101, 102, 103, 104, 105, 106, 107, 108, 109, 110, 111, 112, 20, 21, 22, 23, 24, 25, 113, 114, 115, 116, 117, 118, 119, 120, 121, 122, 123, 124, 125, 44, 45, 47, 126, 127, 128, 129, 130, 131, 132, 42, 133, 134, 135, 136, 137, 138, 139, 140, 141, 142, 143, 144, 145, 146, 147, 148, 149, 150, 151, 152, 153, 154, 155, 156, 157, 158, 159, 160, 161, 162, 163, 164, 165, 166, 167, 168, 169, 170, 171, 172, 173, 174, 175, 176, 177, 178, 179, 7, 8, 9, 11, 14, 15, 16, 17, 19, 26, 27, 28, 29, 30, 31, 32, 33, 34, 35, 36, 37, 38, 39, 40, 41, 43, 180, 181, 182, 183, 184, 185, 186, 187, 188, 189, 190, 191, 192, 193, 194, 195, 196, 197, 198, 199, 200, 201, 202, 203, 204, 205, 206, 207, 208, 209, 210, 211, 212, 213, 214, 215, 216, 217, 218, 219, 220, 221, 222, 223, 224, 225, 226, 227, 228, 229, 230, 231, 232, 233, 234, 235, 236, 237, 238, 239, 240, 241, 242, 243, 244, 245, 246, 247, 248, 249, 250, 251, 252, 253, 254, 255, 256, 257, 258, 259, 260, 261, 262, 263, 264, 265, 266, 267, 268, 269, 270, 271, 272, 273, 274, 275, 276, 277, 278, 279, 280, 281, 282, 283, 284, 285, 286, 287, 288, 289, 290, 291, 292, 293, 294, 295, 296, 297, 298, 299, 300, 301, 302, 303, 304, 305, 306, 307, 308, 309, 310, 311, 312, 313, 314, 315, 316, 317, 318, 319, 320, 321, 322, 323, 324, 325, 326, 327, 328, 329, 330, 331, 332, 333, 334, 335, 336, 337, 338, 339, 340, 341, 342, 343, 344, 345, 346, 347, 348, 349, 350, 351, 352, 353, 354, 355, 356, 357, 358, 359, 360, 361, 362, 363, 364, 365, 366, 367, 368, 369, 370, 371, 372, 373, 374, 375, 376, 377, 378, 379, 380, 381, 382, 383, 384, 385, 386, 387, 388, 389, 390, 391, 392, 393, 394, 395, 396, 397, 398, 399, 400, 401, 402, 403, 404, 405, 406, 407, 408, 409, 410, 411, 412, 413, 414, 415, 416, 417, 418, 419, 420, 421, 422, 423, 424, 428, 429, 425, 426, 427, 430, 431, 432, 433, 434, 435, 436, 437, 438, 439, 440, 441, 442, 443, 444] (by decide +kernel) (by decide +kernel)) (goodIn_sub (fun _ h => List.mem_cons_of_mem _ (List.mem_append_left _ (List.mem_append_right _ h))) (by decide +kernel))) (goodIn_sub (fun _ h => List.mem_cons_of_mem _ (List.mem_append_right _ h)) (by decide +kernel))) (goodIn_sub (fun _ h => List.mem_cons_of_mem _ (List.mem_append_left _ (List.mem_append_left _ (List.mem_append_right _ h)))) (by decide +kernel))
set_option maxRecDepth 20000 in
theorem gL_strokes_L_both : GoodIn wsL_strokes (va_wsS RL 105 yL_both wsL_both) := goodIn_app (goodIn_of _ (by decide +kernel)) ggL_strokes_L_both
set_option maxRecDepth 20000 in
theorem ggL_strokes_L_call : GoodIn wsL_strokes wsL_call := goodIn_ca (goodIn_ca (goodIn_ca (goodIn_r _ [56, 57, 58, 59, 60, 1, 2, 61, 62, 5, 63, 64, 65, 66, 10, 67, 68, 69, 70, 71, 72, 73, 74, 75, 12, 13, 76, 77, 78, 46, 79, 48, 80, 81, 82, 83, 84, 85, 86, 49, 87, 88, 89, 90, 91, 92, 93, 94, 95, 96, 97, 98, 18, 99, 100, 101, 102, 103, 104, 105, 106, 107, 108, 109, 110, 111, 112, 20, 21, 22, 23, 24, 25, 113, 114, 115, 116, 117, 118, 119, 120, 121, 122, 123, 124, 125, 44, 45, 47, 126, 127, 128, 129, 130, 131, 132, 42, 133, 134, 135, 136, 137, 138, 139, 140, 141, 142, 143, 144, 145, 146, 147, 148, 149, 150, 151, 152, 153, 154, 155, 156, 157, 158, 159, 160, 161, 162, 163, 164, 165, 166, 167, 168, 169, 170, 171, 172, 173, 174, 175, 176, 177, 178, 179, 7, 8, 9, 11, 14, 15, 16, 17, 19, 26, 27, 28, 29, 30, 31, 32, 33, 34, 35, 36, 37, 38, 39, 40, 41, 43, 180, 181, 182, 183, 184, 185, 186, 187, 188, 189, 190, 191, 192, 193, 194, 195, 196, 197, 198, 199, 200, 201, 202, 203, 204, 205, 206, 207, 208, 209, 210, 211, 212, 213, 214, 215, 216, 217, 218, 219, 220, 221, 222, 223, 224, 225, 226, 227, 228, 229, 230, 231, 232, 233, 234, 235, 236, 237, 238, 239, 240, 241, 242, 243, 244, 245, 246, 247, 248, 249, 250, 251, 252, 253, 254, 255, 256, 257, 258, 259, 260, 261, 262, 263, 264, 265, 266, 267, 268, 269, 270, 271, 272, 273, 274, 275, 276, 277, 278, 279, 280, 281, 282, 283, 284, 285, 286, 287, 288, 289, 290, 291, 292, 293, 294, 295, 296, 297, 298, 299, 300, 301, 302, 303, 304, 305, 306, 307, 308, 309, 310, 311, 312, 313, 314, 315, 316, 317, 318, 319, 320, 321, 322, 323, 324, 325, 326, 327, 328, 329, 330, 331, 332, 333, 334, 335, 336, 337, 338, 339, 340, 341, 342, 343, 344, 345, 346, 347, 348, 349, 350, 351, 352, 353, 354, 355, 356, 357, 358, 359, 360, 361, 362, 363, 364, 365, 366, 367, 368, 369, 370, 371, 372, 373, 374, 375, 376, 377, 378, 379, 380, 381, 382, 383, 384, 385, 386, 387, 388, 389, 390, 391, 392, 393, 394, 395, 396, 397, 398, 399, 400, 401, 402, 403, 404, 405, 406, 407, 408, 409, 410, 411, 412, 413, 414, 415, 416, 417, 418, 419, 420, 421, 422, 423, 424, 428, 429, 425, 426, 427, 430, 431, 432, 433, 434, 435, 436, 437, 438, 439, 440, 441, 442, 443, 444] (by decide +kernel) (by decide +kernel)) (goodIn_sub (fun _ h => List.mem_cons_of_mem _ (List.mem_append_left _ (List.mem_append_right _ h))) (by decide +kernel))) (goodIn_sub (fun _ h => List.mem_cons_of_mem _ (List.mem_append_right _ h)) (by decide +kernel))) (goodIn_sub (fun _ h => List.mem_cons_of_mem _ (List.mem_append_left _ (List.mem_append_left _ (List.mem_append_right _ h)))) (by decide +kernel))
set_option maxRecDepth 20000 in
theorem gL_strokes_L_call : GoodIn wsL_strokes (va_wsS RL 98 yL_call wsL_call) := goodIn_app (goodIn_of _ (by decide +kernel)) ggL_strokes_L_call
theorem dL_strokes_0 : decode cL_strokes 0 = .ok (.iload_n 3, 1) := by decide +kernel
theorem dL_strokes_1 : decode cL_strokes 1 = .ok (.bipush 9, 2) := by decide +kernel
theorem dL_strokes_3 : decode cL_strokes 3 = .ok (.invokestatic 102, 3) := by decide +kernel
theorem dL_strokes_6 : decode cL_strokes 6 = .ok (.istore 5, 2) := by decide +kernel
theorem dL_strokes_8 : decode cL_strokes 8 = .ok (.iload 5, 2) := by decide +kernel
theorem dL_strokes_10 : decode cL_strokes 10 = .ok (.bipush 6, 2) := by decide +kernel
theorem dL_strokes_12 : decode cL_strokes 12 = .ok (.if_icmp .ge 206, 3) := by decide +kernel
theorem dL_strokes_15 : decode cL_strokes 15 = .ok (.aload_n 2, 1) := by decide +kernel
theorem dL_strokes_16 : decode cL_strokes 16 = .ok (.iconst 0, 1) := by decide +kernel
theorem dL_strokes_17 : decode cL_strokes 17 = .ok (.iaload, 1) := by decide +kernel
theorem dL_strokes_18 : decode cL_strokes 18 = .ok (.ifCond .eq 13, 3) := by decide +kernel
theorem dL_strokes_21 : decode cL_strokes 21 = .ok (.iload_n 3, 1) := by decide +kernel
theorem dL_strokes_22 : decode cL_strokes 22 = .ok (.iconst 4, 1) := by decide +kernel
theorem dL_strokes_23 : decode cL_strokes 23 = .ok (.ishr, 1) := by decide +kernel
theorem dL_strokes_24 : decode cL_strokes 24 = .ok (.iconst 5, 1) := by decide +kernel
theorem dL_strokes_25 : decode cL_strokes 25 = .ok (.invokestatic 102, 3) := by decide +kernel
theorem dL_strokes_28 : decode cL_strokes 28 = .ok (.ifCond .ne 26, 3) := by decide +kernel
theorem dL_strokes_31 : decode cL_strokes 31 = .ok (.bipush 10, 2) := by decide +kernel
theorem dL_strokes_33 : decode cL_strokes 33 = .ok (.iload 4, 2) := by decide +kernel
theorem dL_strokes_35 : decode cL_strokes 35 = .ok (.bipush 9, 2) := by decide +kernel
theorem dL_strokes_37 : decode cL_strokes 37 = .ok (.invokestatic 102, 3) := by decide +kernel
theorem dL_strokes_40 : decode cL_strokes 40 = .ok (.imul, 1) := by decide +kernel
theorem dL_strokes_41 : decode cL_strokes 41 = .ok (.iload 4, 2) := by decide +kernel
theorem dL_strokes_43 : decode cL_strokes 43 = .ok (.iconst 4, 1) := by decide +kernel
theorem dL_strokes_44 : decode cL_strokes 44 = .ok (.ishr, 1) := by decide +kernel
theorem dL_strokes_45 : decode cL_strokes 45 = .ok (.bipush 9, 2) := by decide +kernel
theorem dL_strokes_47 : decode cL_strokes 47 = .ok (.invokestatic 102, 3) := by decide +kernel
theorem dL_strokes_50 : decode cL_strokes 50 = .ok (.iadd, 1) := by decide +kernel
theorem dL_strokes_51 : decode cL_strokes 51 = .ok (.goto 23, 3) := by decide +kernel
theorem dL_strokes_54 : decode cL_strokes 54 = .ok (.aload_n 0, 1) := by decide +kernel
theorem dL_strokes_55 : decode cL_strokes 55 = .ok (.iload 4, 2) := by decide +kernel
theorem dL_strokes_57 : decode cL_strokes 57 = .ok (.aload_n 2, 1) := by decide +kernel
theorem dL_strokes_58 : decode cL_strokes 58 = .ok (.iconst 0, 1) := by decide +kernel
theorem dL_strokes_59 : decode cL_strokes 59 = .ok (.iaload, 1) := by decide +kernel
theorem dL_strokes_60 : decode cL_strokes 60 = .ok (.invokestatic 102, 3) := by decide +kernel
theorem dL_strokes_63 : decode cL_strokes 63 = .ok (.iload 4, 2) := by decide +kernel
theorem dL_strokes_65 : decode cL_strokes 65 = .ok (.iconst 3, 1) := by decide +kernel
theorem dL_strokes_66 : decode cL_strokes 66 = .ok (.ishr, 1) := by decide +kernel
theorem dL_strokes_67 : decode cL_strokes 67 = .ok (.iconst 4, 1) := by decide +kernel
theorem dL_strokes_68 : decode cL_strokes 68 = .ok (.invokestatic 102, 3) := by decide +kernel
theorem dL_strokes_71 : decode cL_strokes 71 = .ok (.invokevirtual 37, 3) := by decide +kernel
theorem dL_strokes_74 : decode cL_strokes 74 = .ok (.istore 6, 2) := by decide +kernel
theorem dL_strokes_76 : decode cL_strokes 76 = .ok (.iload 6, 2) := by decide +kernel
theorem dL_strokes_78 : decode cL_strokes 78 = .ok (.ifCond .ge 8, 3) := by decide +kernel
theorem dL_strokes_81 : decode cL_strokes 81 = .ok (.bipush 12, 2) := by decide +kernel
theorem dL_strokes_83 : decode cL_strokes 83 = .ok (.goto 33, 3) := by decide +kernel
theorem dL_strokes_86 : decode cL_strokes 86 = .ok (.iload_n 3, 1) := by decide +kernel
theorem dL_strokes_87 : decode cL_strokes 87 = .ok (.bipush 6, 2) := by decide +kernel
theorem dL_strokes_89 : decode cL_strokes 89 = .ok (.ishr, 1) := by decide +kernel
theorem dL_strokes_90 : decode cL_strokes 90 = .ok (.iconst 4, 1) := by decide +kernel
theorem dL_strokes_91 : decode cL_strokes 91 = .ok (.invokestatic 102, 3) := by decide +kernel
theorem dL_strokes_94 : decode cL_strokes 94 = .ok (.ifCond .ne 20, 3) := by decide +kernel
theorem dL_strokes_97 : decode cL_strokes 97 = .ok (.iload 6, 2) := by decide +kernel
theorem dL_strokes_99 : decode cL_strokes 99 = .ok (.bipush 10, 2) := by decide +kernel
theorem dL_strokes_101 : decode cL_strokes 101 = .ok (.idiv, 1) := by decide +kernel
theorem dL_strokes_102 : decode cL_strokes 102 = .ok (.iload 6, 2) := by decide +kernel
theorem dL_strokes_104 : decode cL_strokes 104 = .ok (.bipush 10, 2) := by decide +kernel
theorem dL_strokes_106 : decode cL_strokes 106 = .ok (.irem, 1) := by decide +kernel
theorem dL_strokes_107 : decode cL_strokes 107 = .ok (.bipush 10, 2) := by decide +kernel
theorem dL_strokes_109 : decode cL_strokes 109 = .ok (.imul, 1) := by decide +kernel
theorem dL_strokes_110 : decode cL_strokes 110 = .ok (.iadd, 1) := by decide +kernel
theorem dL_strokes_111 : decode cL_strokes 111 = .ok (.goto 5, 3) := by decide +kernel
theorem dL_strokes_114 : decode cL_strokes 114 = .ok (.iload 6, 2) := by decide +kernel
theorem dL_strokes_116 : decode cL_strokes 116 = .ok (.istore 6, 2) := by decide +kernel
theorem dL_strokes_118 : decode cL_strokes 118 = .ok (.aload_n 0, 1) := by decide +kernel
theorem dL_strokes_119 : decode cL_strokes 119 = .ok (.aload_n 1, 1) := by decide +kernel
theorem dL_strokes_120 : decode cL_strokes 120 = .ok (.iconst 0, 1) := by decide +kernel
theorem dL_strokes_121 : decode cL_strokes 121 = .ok (.iload 6, 2) := by decide +kernel
theorem dL_strokes_123 : decode cL_strokes 123 = .ok (.bipush 10, 2) := by decide +kernel
theorem dL_strokes_125 : decode cL_strokes 125 = .ok (.idiv, 1) := by decide +kernel
theorem dL_strokes_126 : decode cL_strokes 126 = .ok (.iload 6, 2) := by decide +kernel
theorem dL_strokes_128 : decode cL_strokes 128 = .ok (.bipush 10, 2) := by decide +kernel
theorem dL_strokes_130 : decode cL_strokes 130 = .ok (.irem, 1) := by decide +kernel
theorem dL_strokes_131 : decode cL_strokes 131 = .ok (.iconst 0, 1) := by decide +kernel
theorem dL_strokes_132 : decode cL_strokes 132 = .ok (.invokestatic 105, 3) := by decide +kernel
theorem dL_strokes_135 : decode cL_strokes 135 = .ok (.istore 7, 2) := by decide +kernel
theorem dL_strokes_137 : decode cL_strokes 137 = .ok (.aload_n 2, 1) := by decide +kernel
theorem dL_strokes_138 : decode cL_strokes 138 = .ok (.iconst 3, 1) := by decide +kernel
theorem dL_strokes_139 : decode cL_strokes 139 = .ok (.dup2, 1) := by decide +kernel
theorem dL_strokes_140 : decode cL_strokes 140 = .ok (.iaload, 1) := by decide +kernel
theorem dL_strokes_141 : decode cL_strokes 141 = .ok (.iload 7, 2) := by decide +kernel
theorem dL_strokes_143 : decode cL_strokes 143 = .ok (.ifCond .lt 7, 3) := by decide +kernel
theorem dL_strokes_146 : decode cL_strokes 146 = .ok (.iconst 1, 1) := by decide +kernel
theorem dL_strokes_147 : decode cL_strokes 147 = .ok (.goto 4, 3) := by decide +kernel
theorem dL_strokes_150 : decode cL_strokes 150 = .ok (.iconst 0, 1) := by decide +kernel
theorem dL_strokes_151 : decode cL_strokes 151 = .ok (.iadd, 1) := by decide +kernel
theorem dL_strokes_152 : decode cL_strokes 152 = .ok (.iastore, 1) := by decide +kernel
theorem dL_strokes_153 : decode cL_strokes 153 = .ok (.iload 7, 2) := by decide +kernel
theorem dL_strokes_155 : decode cL_strokes 155 = .ok (.ldc 20, 2) := by decide +kernel
theorem dL_strokes_157 : decode cL_strokes 157 = .ok (.if_icmp .ne 24, 3) := by decide +kernel
theorem dL_strokes_160 : decode cL_strokes 160 = .ok (.iload 6, 2) := by decide +kernel
theorem dL_strokes_162 : decode cL_strokes 162 = .ok (.bipush 10, 2) := by decide +kernel
theorem dL_strokes_164 : decode cL_strokes 164 = .ok (.idiv, 1) := by decide +kernel
theorem dL_strokes_165 : decode cL_strokes 165 = .ok (.iload 6, 2) := by decide +kernel
theorem dL_strokes_167 : decode cL_strokes 167 = .ok (.bipush 10, 2) := by decide +kernel
theorem dL_strokes_169 : decode cL_strokes 169 = .ok (.irem, 1) := by decide +kernel
theorem dL_strokes_170 : decode cL_strokes 170 = .ok (.if_icmp .ne 7, 3) := by decide +kernel
theorem dL_strokes_173 : decode cL_strokes 173 = .ok (.iconst 1, 1) := by decide +kernel
theorem dL_strokes_174 : decode cL_strokes 174 = .ok (.goto 43, 3) := by decide +kernel
theorem dL_strokes_177 : decode cL_strokes 177 = .ok (.iconst 0, 1) := by decide +kernel
theorem dL_strokes_178 : decode cL_strokes 178 = .ok (.goto 39, 3) := by decide +kernel
theorem dL_strokes_181 : decode cL_strokes 181 = .ok (.iload 7, 2) := by decide +kernel
theorem dL_strokes_183 : decode cL_strokes 183 = .ok (.ldc 23, 2) := by decide +kernel
theorem dL_strokes_185 : decode cL_strokes 185 = .ok (.if_icmp .ne 19, 3) := by decide +kernel
theorem dL_strokes_188 : decode cL_strokes 188 = .ok (.aload_n 2, 1) := by decide +kernel
theorem dL_strokes_189 : decode cL_strokes 189 = .ok (.iconst 3, 1) := by decide +kernel
theorem dL_strokes_190 : decode cL_strokes 190 = .ok (.iaload, 1) := by decide +kernel
theorem dL_strokes_191 : decode cL_strokes 191 = .ok (.bipush 8, 2) := by decide +kernel
theorem dL_strokes_193 : decode cL_strokes 193 = .ok (.if_icmp .ne 7, 3) := by decide +kernel
theorem dL_strokes_196 : decode cL_strokes 196 = .ok (.iconst 1, 1) := by decide +kernel
theorem dL_strokes_197 : decode cL_strokes 197 = .ok (.goto 20, 3) := by decide +kernel
theorem dL_strokes_200 : decode cL_strokes 200 = .ok (.iconst 0, 1) := by decide +kernel
theorem dL_strokes_201 : decode cL_strokes 201 = .ok (.goto 16, 3) := by decide +kernel
theorem dL_strokes_204 : decode cL_strokes 204 = .ok (.iload 7, 2) := by decide +kernel
theorem dL_strokes_206 : decode cL_strokes 206 = .ok (.aload_n 2, 1) := by decide +kernel
theorem dL_strokes_207 : decode cL_strokes 207 = .ok (.iconst 3, 1) := by decide +kernel
theorem dL_strokes_208 : decode cL_strokes 208 = .ok (.iaload, 1) := by decide +kernel
theorem dL_strokes_209 : decode cL_strokes 209 = .ok (.if_icmp .ne 7, 3) := by decide +kernel
theorem dL_strokes_212 : decode cL_strokes 212 = .ok (.iconst 1, 1) := by decide +kernel
theorem dL_strokes_213 : decode cL_strokes 213 = .ok (.goto 4, 3) := by decide +kernel
theorem dL_strokes_216 : decode cL_strokes 216 = .ok (.iconst 0, 1) := by decide +kernel
theorem dL_strokes_217 : decode cL_strokes 217 = .ok (.ireturn, 1) := by decide +kernel
theorem dL_strokes_218 : decode cL_strokes 218 = .ok (.iload 5, 2) := by decide +kernel
theorem dL_strokes_220 : decode cL_strokes 220 = .ok (.bipush 7, 2) := by decide +kernel
theorem dL_strokes_222 : decode cL_strokes 222 = .ok (.if_icmp .ge 32, 3) := by decide +kernel
theorem dL_strokes_225 : decode cL_strokes 225 = .ok (.aload_n 2, 1) := by decide +kernel
theorem dL_strokes_226 : decode cL_strokes 226 = .ok (.iconst 3, 1) := by decide +kernel
theorem dL_strokes_227 : decode cL_strokes 227 = .ok (.iaload, 1) := by decide +kernel
theorem dL_strokes_228 : decode cL_strokes 228 = .ok (.istore 6, 2) := by decide +kernel
theorem dL_strokes_230 : decode cL_strokes 230 = .ok (.aload_n 2, 1) := by decide +kernel
theorem dL_strokes_231 : decode cL_strokes 231 = .ok (.iconst 3, 1) := by decide +kernel
theorem dL_strokes_232 : decode cL_strokes 232 = .ok (.iconst 0, 1) := by decide +kernel
theorem dL_strokes_233 : decode cL_strokes 233 = .ok (.iastore, 1) := by decide +kernel
theorem dL_strokes_234 : decode cL_strokes 234 = .ok (.aload_n 0, 1) := by decide +kernel
theorem dL_strokes_235 : decode cL_strokes 235 = .ok (.aload_n 1, 1) := by decide +kernel
theorem dL_strokes_236 : decode cL_strokes 236 = .ok (.iconst 1, 1) := by decide +kernel
theorem dL_strokes_237 : decode cL_strokes 237 = .ok (.iconst 0, 1) := by decide +kernel
theorem dL_strokes_238 : decode cL_strokes 238 = .ok (.iconst 0, 1) := by decide +kernel
theorem dL_strokes_239 : decode cL_strokes 239 = .ok (.iconst 0, 1) := by decide +kernel
theorem dL_strokes_240 : decode cL_strokes 240 = .ok (.invokestatic 105, 3) := by decide +kernel
theorem dL_strokes_243 : decode cL_strokes 243 = .ok (.iload 6, 2) := by decide +kernel
theorem dL_strokes_245 : decode cL_strokes 245 = .ok (.if_icmp .ne 7, 3) := by decide +kernel
theorem dL_strokes_248 : decode cL_strokes 248 = .ok (.iconst 1, 1) := by decide +kernel
theorem dL_strokes_249 : decode cL_strokes 249 = .ok (.goto 4, 3) := by decide +kernel
theorem dL_strokes_252 : decode cL_strokes 252 = .ok (.iconst 0, 1) := by decide +kernel
theorem dL_strokes_253 : decode cL_strokes 253 = .ok (.ireturn, 1) := by decide +kernel
theorem dL_strokes_254 : decode cL_strokes 254 = .ok (.aload_n 0, 1) := by decide +kernel
theorem dL_strokes_255 : decode cL_strokes 255 = .ok (.aload_n 1, 1) := by decide +kernel
theorem dL_strokes_256 : decode cL_strokes 256 = .ok (.iconst 2, 1) := by decide +kernel
theorem dL_strokes_257 : decode cL_strokes 257 = .ok (.iconst 0, 1) := by decide +kernel
theorem dL_strokes_258 : decode cL_strokes 258 = .ok (.iconst 0, 1) := by decide +kernel
theorem dL_strokes_259 : decode cL_strokes 259 = .ok (.iconst 0, 1) := by decide +kernel
theorem dL_strokes_260 : decode cL_strokes 260 = .ok (.invokestatic 105, 3) := by decide +kernel
theorem dL_strokes_263 : decode cL_strokes 263 = .ok (.istore 6, 2) := by decide +kernel
theorem dL_strokes_265 : decode cL_strokes 265 = .ok (.iload 6, 2) := by decide +kernel
theorem dL_strokes_267 : decode cL_strokes 267 = .ok (.ldc 23, 2) := by decide +kernel
theorem dL_strokes_269 : decode cL_strokes 269 = .ok (.if_icmp .ne 5, 3) := by decide +kernel
theorem dL_strokes_272 : decode cL_strokes 272 = .ok (.iconst 1, 1) := by decide +kernel
theorem dL_strokes_273 : decode cL_strokes 273 = .ok (.ireturn, 1) := by decide +kernel
theorem dL_strokes_274 : decode cL_strokes 274 = .ok (.aload_n 2, 1) := by decide +kernel
theorem dL_strokes_275 : decode cL_strokes 275 = .ok (.iconst 3, 1) := by decide +kernel
theorem dL_strokes_276 : decode cL_strokes 276 = .ok (.iaload, 1) := by decide +kernel
theorem dL_strokes_277 : decode cL_strokes 277 = .ok (.istore 7, 2) := by decide +kernel
theorem dL_strokes_279 : decode cL_strokes 279 = .ok (.aload_n 2, 1) := by decide +kernel
theorem dL_strokes_280 : decode cL_strokes 280 = .ok (.iconst 3, 1) := by decide +kernel
theorem dL_strokes_281 : decode cL_strokes 281 = .ok (.iconst 0, 1) := by decide +kernel
theorem dL_strokes_282 : decode cL_strokes 282 = .ok (.iastore, 1) := by decide +kernel
theorem dL_strokes_283 : decode cL_strokes 283 = .ok (.aload_n 2, 1) := by decide +kernel
theorem dL_strokes_284 : decode cL_strokes 284 = .ok (.iconst 0, 1) := by decide +kernel
theorem dL_strokes_285 : decode cL_strokes 285 = .ok (.dup2, 1) := by decide +kernel
theorem dL_strokes_286 : decode cL_strokes 286 = .ok (.iaload, 1) := by decide +kernel
theorem dL_strokes_287 : decode cL_strokes 287 = .ok (.iconst 1, 1) := by decide +kernel
theorem dL_strokes_288 : decode cL_strokes 288 = .ok (.iadd, 1) := by decide +kernel
theorem dL_strokes_289 : decode cL_strokes 289 = .ok (.iastore, 1) := by decide +kernel
theorem dL_strokes_290 : decode cL_strokes 290 = .ok (.iload 6, 2) := by decide +kernel
theorem dL_strokes_292 : decode cL_strokes 292 = .ok (.aload_n 2, 1) := by decide +kernel
theorem dL_strokes_293 : decode cL_strokes 293 = .ok (.iconst 0, 1) := by decide +kernel
theorem dL_strokes_294 : decode cL_strokes 294 = .ok (.iaload, 1) := by decide +kernel
theorem dL_strokes_295 : decode cL_strokes 295 = .ok (.iconst 1, 1) := by decide +kernel
theorem dL_strokes_296 : decode cL_strokes 296 = .ok (.isub, 1) := by decide +kernel
theorem dL_strokes_297 : decode cL_strokes 297 = .ok (.if_icmp .ne 71, 3) := by decide +kernel
theorem dL_strokes_300 : decode cL_strokes 300 = .ok (.iload 7, 2) := by decide +kernel
theorem dL_strokes_302 : decode cL_strokes 302 = .ok (.ifCond .le 66, 3) := by decide +kernel
theorem dL_strokes_305 : decode cL_strokes 305 = .ok (.iload 7, 2) := by decide +kernel
theorem dL_strokes_307 : decode cL_strokes 307 = .ok (.bipush 7, 2) := by decide +kernel
theorem dL_strokes_309 : decode cL_strokes 309 = .ok (.if_icmp .ge 59, 3) := by decide +kernel
theorem dL_strokes_312 : decode cL_strokes 312 = .ok (.aload_n 0, 1) := by decide +kernel
theorem dL_strokes_313 : decode cL_strokes 313 = .ok (.iload 6, 2) := by decide +kernel
theorem dL_strokes_315 : decode cL_strokes 315 = .ok (.iload 7, 2) := by decide +kernel
theorem dL_strokes_317 : decode cL_strokes 317 = .ok (.iconst 1, 1) := by decide +kernel
theorem dL_strokes_318 : decode cL_strokes 318 = .ok (.isub, 1) := by decide +kernel
theorem dL_strokes_319 : decode cL_strokes 319 = .ok (.invokevirtual 37, 3) := by decide +kernel
theorem dL_strokes_322 : decode cL_strokes 322 = .ok (.iconst (-1), 1) := by decide +kernel
theorem dL_strokes_323 : decode cL_strokes 323 = .ok (.if_icmp .eq 45, 3) := by decide +kernel
theorem dL_strokes_326 : decode cL_strokes 326 = .ok (.aload_n 0, 1) := by decide +kernel
theorem dL_strokes_327 : decode cL_strokes 327 = .ok (.iload 6, 2) := by decide +kernel
theorem dL_strokes_329 : decode cL_strokes 329 = .ok (.iload 7, 2) := by decide +kernel
theorem dL_strokes_331 : decode cL_strokes 331 = .ok (.invokevirtual 37, 3) := by decide +kernel
theorem dL_strokes_334 : decode cL_strokes 334 = .ok (.iconst (-1), 1) := by decide +kernel
theorem dL_strokes_335 : decode cL_strokes 335 = .ok (.if_icmp .ne 33, 3) := by decide +kernel
theorem dL_strokes_338 : decode cL_strokes 338 = .ok (.aload_n 0, 1) := by decide +kernel
theorem dL_strokes_339 : decode cL_strokes 339 = .ok (.iconst 2, 1) := by decide +kernel
theorem dL_strokes_340 : decode cL_strokes 340 = .ok (.iconst 0, 1) := by decide +kernel
theorem dL_strokes_341 : decode cL_strokes 341 = .ok (.iconst 0, 1) := by decide +kernel
theorem dL_strokes_342 : decode cL_strokes 342 = .ok (.iconst 0, 1) := by decide +kernel
theorem dL_strokes_343 : decode cL_strokes 343 = .ok (.invokestatic 98, 3) := by decide +kernel
theorem dL_strokes_346 : decode cL_strokes 346 = .ok (.ldc 23, 2) := by decide +kernel
theorem dL_strokes_348 : decode cL_strokes 348 = .ok (.if_icmp .ne 20, 3) := by decide +kernel
theorem dL_strokes_351 : decode cL_strokes 351 = .ok (.aload_n 1, 1) := by decide +kernel
theorem dL_strokes_352 : decode cL_strokes 352 = .ok (.iconst 2, 1) := by decide +kernel
theorem dL_strokes_353 : decode cL_strokes 353 = .ok (.iconst 0, 1) := by decide +kernel
theorem dL_strokes_354 : decode cL_strokes 354 = .ok (.iconst 0, 1) := by decide +kernel
theorem dL_strokes_355 : decode cL_strokes 355 = .ok (.iconst 0, 1) := by decide +kernel
theorem dL_strokes_356 : decode cL_strokes 356 = .ok (.invokestatic 98, 3) := by decide +kernel
theorem dL_strokes_359 : decode cL_strokes 359 = .ok (.ldc 23, 2) := by decide +kernel
theorem dL_strokes_361 : decode cL_strokes 361 = .ok (.if_icmp .ne 7, 3) := by decide +kernel
theorem dL_strokes_364 : decode cL_strokes 364 = .ok (.iconst 1, 1) := by decide +kernel
theorem dL_strokes_365 : decode cL_strokes 365 = .ok (.goto 4, 3) := by decide +kernel
theorem dL_strokes_368 : decode cL_strokes 368 = .ok (.iconst 0, 1) := by decide +kernel
theorem dL_strokes_369 : decode cL_strokes 369 = .ok (.ireturn, 1) := by decide +kernel
