set_option maxRecDepth 20000 in
theorem ggL_writes_L_some : GoodIn wsL_writes wsL_some := goodIn_r _ [6] (by decide +kernel) (by decide +kernel)
set_option maxRecDepth 20000 in
theorem gL_writes_L_some : GoodIn wsL_writes (va_wsS RL 102 yL_some wsL_some) := goodIn_app (goodIn_of _ (by decide +kernel)) ggL_writes_L_some
set_option maxRecDepth 20000 in
theorem ggL_writes_X5_sheets : GoodIn wsL_writes wsX5_sheets := goodIn_ca (goodIn_r _ [11, 12, 13, 14, 10, 15, 16, 17, 18, 19, 20, 21, 22, 23, 24, 419, 420, 421, 422, 423, 424, 425, 426] (by decide +kernel) (by decide +kernel)) (goodIn_sub (fun _ h => List.mem_cons_of_mem _ (List.mem_append_left _ (List.mem_append_left _ (List.mem_append_right _ h)))) (by decide +kernel))
set_option maxRecDepth 20000 in
theorem gL_writes_X5_sheets : GoodIn wsL_writes (wsV RL 48 RX5 yX5_sheets wsX5_sheets) := goodIn_app (goodIn_of _ (by decide +kernel)) ggL_writes_X5_sheets
set_option maxRecDepth 20000 in
theorem ggL_writes_L_both : GoodIn wsL_writes wsL_both := goodIn_ca (goodIn_ca (goodIn_ca (goodIn_r _ [27, 28, 29, 30, 5, 31, 32, 33, 34, 2, 35, 1, 36, 37, 38, 39, 40, 41, 10, 42, 43, 44, 45, 46, 47, 48, 49, 50, 16, 17, 51, 52, 53, 54, 55, 56, 57, 58, 59, 60, 61, 62, 63, 64, 65, 66, 67, 68, 69, 70, 71, 72, 73, 74, 75, 76, 77, 78, 79, 80, 81, 82, 83, 84, 85, 86, 87, 88, 89, 90, 91, 92, 93, 94, 95, 96, 97, 98, 99, 100, 101, 102, 103, 104, 105, 106, 107, 108, 109, 110, 111, 112, 113, 114, 115, 116, 117, 118, 119, 120, 121, 122, 123, 124, 125, 126, 127, 128, 129, 130, 131, 132, 133, 134, 135, 136, 137, 138, 139, 140, 141, 142, 143, 144, 145, 146, 147, 148, 149, 150, 151, 152, 153, 154, 155, 156, 157, 158, 159, 160, 161, 162, 163, 164, 165, 166, 167, 168, 169, 170, 171, 172, 173, 174, 175, 176, 177, 178, 179, 180, 181, 182, 183, 184, 185, 186, 187, 188, 189, 190, 191, 192, 193, 194, 195, 196, 197, 198, 199, 200, 201, 202, 203, 204, 205, 206, 207, 208, 209, 210, 211, 212, 213, 214, 215, 216, 217, 218, 219, 12, 13, 14, 15, 220, 221, 222, 21, 223, 23, 24, 18, 19, 20, 22, 7, 8, 9, 11, 224, 225, 226, 227, 228, 229, 230, 231, 232, 233, 234, 235, 236, 237, 238, 239, 240, 241, 242, 243, 244, 245, 246, 247, 248, 249, 250, 251, 252, 253, 254, 255, 256, 257, 258, 259, 260, 261, 262, 263, 264, 265, 266, 267, 268, 269, 270, 271, 272, 273, 274, 275, 276, 277, 278, 279, 280, 281, 282, 283, 284, 285, 286, 287, 288, 289, 290, 291, 292, 293, 294, 295, 296, 297, 298, 299, 300, 301, 302, 303, 304, 305, 306, 307, 308, 309, 310, 311, 312, 313, 314, 315, 316, 317, 318, 319, 320, 321, 322, 323, 324, 325, 326, 327, 328, 329, 330, 331, 332, 333, 334, 335, 336, 337, 338, 339, 340, 341, 342, 343, 344, 345, 346, 347, 348, 349, 350, 351, 352, 353, 354, 355, 356, 357, 358, 359, 360, 361, 362, 363, 364, 365, 366, 367, 368, 369, 370, 371, 372, 373, 374, 375, 376, 377, 378, 379, 380, 381, 382, 383, 384, 385, 386, 387, 388, 389, 390, 391, 392, 393, 394, 395, 396, 397, 398, 399, 400, 401, 402, 403, 404, 405, 406, 407, 408, 409, 410, 411, 412, 413, 414, 415, 416, 417, 418, 419, 420, 421, 422, 423, 424, 427, 428, 429, 430, 431, 432, 433, 434, 425, 426, 435, 436, 437, 438, 439, 440, 441, 442, 443, 444] (by decide +kernel) (by decide +kernel)) (goodIn_sub (fun _ h => List.mem_cons_of_mem _ (List.mem_append_left _ (List.mem_append_right _ h))) (by decide +kernel))) (goodIn_sub (fun _ h => List.mem_cons_of_mem _ (List.mem_append_right _ h)) (by decide +kernel))) (goodIn_sub (fun _ h => List.mem_cons_of_mem _ (List.mem_append_left _ (List.mem_append_left _ (List.mem_append_right _ h)))) (by decide +kernel))
set_option maxRecDepth 20000 in
theorem gL_writes_L_both : GoodIn wsL_writes (va_wsS RL 105 yL_both wsL_both) := goodIn_app (goodIn_of _ (by decide +kernel)) ggL_writes_L_both
set_option maxRecDepth 20000 in
theorem ggL_writes_L_call : GoodIn wsL_writes wsL_call := goodIn_ca (goodIn_ca (goodIn_ca (goodIn_r _ [31, 32, 33, 34, 2, 35, 1, 36, 37, 5, 38, 39, 40, 41, 10, 42, 43, 44, 45, 46, 47, 48, 49, 50, 16, 17, 51, 52, 53, 54, 55, 56, 57, 58, 59, 60, 61, 62, 63, 64, 65, 66, 67, 68, 69, 70, 71, 72, 73, 74, 75, 76, 77, 78, 79, 80, 81, 82, 83, 84, 85, 86, 87, 88, 89, 90, 91, 92, 93, 94, 95, 96, 97, 98, 99, 100, 101, 102, 103, 104, 105, 106, 107, 108, 109, 110, 111, 112, 113, 114, 115, 116, 117, 118, 119, 120, 121, 122, 123, 124, 125, 126, 127, 128, 129, 130, 131, 132, 133, 134, 135, 136, 137, 138, 139, 140, 141, 142, 143, 144, 145, 146, 147, 148, 149, 150, 151, 152, 153, 154, 155, 156, 157, 158, 159, 160, 161, 162, 163, 164, 165, 166, 167, 168, 169, 170, 171, 172, 173, 174, 175, 176, 177, 178, 179, 180, 181, 182, 183, 184, 185, 186, 187, 188, 189, 190, 191, 192, 193, 194, 195, 196, 197, 198, 199, 200, 201, 202, 203, 204, 205, 206, 207, 208, 209, 210, 211, 212, 213, 214, 215, 216, 217, 218, 219, 12, 13, 14, 15, 220, 221, 222, 21, 223, 23, 24, 18, 19, 20, 22, 7, 8, 9, 11, 224, 225, 226, 227, 228, 229, 230, 231, 232, 233, 234, 235, 236, 237, 238, 239, 240, 241, 242, 243, 244, 245, 246, 247, 248, 249, 250, 251, 252, 253, 254, 255, 256, 257, 258, 259, 260, 261, 262, 263, 264, 265, 266, 267, 268, 269, 270, 271, 272, 273, 274, 275, 276, 277, 278, 279, 280, 281, 282, 283, 284, 285, 286, 287, 288, 289, 290, 291, 292, 293, 294, 295, 296, 297, 298, 299, 300, 301, 302, 303, 304, 305, 306, 307, 308, 309, 310, 311, 312, 313, 314, 315, 316, 317, 318, 319, 320, 321, 322, 323, 324, 325, 326, 327, 328, 329, 330, 331, 332, 333, 334, 335, 336, 337, 338, 339, 340, 341, 342, 343, 344, 345, 346, 347, 348, 349, 350, 351, 352, 353, 354, 355, 356, 357, 358, 359, 360, 361, 362, 363, 364, 365, 366, 367, 368, 369, 370, 371, 372, 373, 374, 375, 376, 377, 378, 379, 380, 381, 382, 383, 384, 385, 386, 387, 388, 389, 390, 391, 392, 393, 394, 395, 396, 397, 398, 399, 400, 401, 402, 403, 404, 405, 406, 407, 408, 409, 410, 411, 412, 413, 414, 415, 416, 417, 418, 419, 420, 421, 422, 423, 424, 427, 428, 429, 430, 431, 432, 433, 434, 425, 426, 435, 436, 437, 438, 439, 440, 441, 442, 443, 444] (by decide +kernel) (by decide +kernel)) (goodIn_sub (fun _ h => List.mem_cons_of_mem _ (List.mem_append_left _ (List.mem_append_right _ h))) (by decide +kernel))) (goodIn_sub (fun _ h => List.mem_cons_of_mem _ (List.mem_append_right _ h)) (by decide +kernel))) (goodIn_sub (fun _ h => List.mem_cons_of_mem _ (List.mem_append_left _ (List.mem_append_left _ (List.mem_append_right _ h)))) (by decide +kernel))
set_option maxRecDepth 20000 in
theorem gL_writes_L_call : GoodIn wsL_writes (va_wsS RL 98 yL_call wsL_call) := goodIn_app (goodIn_of _ (by decide +kernel)) ggL_writes_L_call
set_option maxRecDepth 20000 in
theorem ggL_writes_X5_strokeOf : GoodIn wsL_writes wsX5_strokeOf := goodIn_ca (goodIn_r _ [172, 16, 17, 173, 174, 175, 10, 176, 77, 177, 92, 93, 94, 95, 96, 97, 178, 179, 180, 181, 182, 183, 184, 185, 186, 187, 188, 189, 190, 191, 192, 193, 121, 194, 111, 112, 54, 113, 56, 64, 419, 420, 421, 422, 423, 424, 429, 430, 431, 427, 428] (by decide +kernel) (by decide +kernel)) (goodIn_sub (fun _ h => List.mem_cons_of_mem _ (List.mem_append_left _ (List.mem_append_left _ (List.mem_append_right _ h)))) (by decide +kernel))
set_option maxRecDepth 20000 in
theorem gL_writes_X5_strokeOf : GoodIn wsL_writes (wsV RL 37 RX5 yX5_strokeOf wsX5_strokeOf) := goodIn_app (goodIn_of _ (by decide +kernel)) ggL_writes_X5_strokeOf
set_option maxRecDepth 20000 in
theorem ggL_writes_X5_slips : GoodIn wsL_writes wsX5_slips := goodIn_ca (goodIn_ca (goodIn_r _ [289, 43, 44, 290, 291, 292, 10, 293, 16, 17, 228, 294, 92, 93, 94, 95, 96, 97, 178, 179, 180, 181, 182, 183, 184, 185, 186, 187, 188, 189, 190, 191, 192, 193, 121, 295, 296, 297, 233, 298, 255, 299, 300, 301, 302, 419, 420, 421, 422, 423, 424, 429, 430, 431, 435, 436, 437, 438, 439, 440, 441] (by decide +kernel) (by decide +kernel)) (goodIn_sub (fun _ h => List.mem_cons_of_mem _ (List.mem_append_left _ (List.mem_append_right _ h))) (by decide +kernel))) (goodIn_sub (fun _ h => List.mem_cons_of_mem _ (List.mem_append_left _ (List.mem_append_left _ (List.mem_append_right _ h)))) (by decide +kernel))
set_option maxRecDepth 20000 in
theorem gL_writes_X5_slips : GoodIn wsL_writes (wsV RL 55 RX5 yX5_slips wsX5_slips) := goodIn_app (goodIn_of _ (by decide +kernel)) ggL_writes_X5_slips
set_option maxRecDepth 20000 in
theorem ggL_writes_X5_lacks : GoodIn wsL_writes wsX5_lacks := goodIn_ca (goodIn_r _ [365, 327, 290, 291, 292, 10, 293, 16, 17, 228, 294, 92, 93, 94, 95, 96, 97, 178, 179, 180, 181, 182, 183, 184, 185, 186, 187, 188, 189, 190, 191, 192, 193, 121, 336, 337, 338, 252, 339, 265, 264, 340, 341, 137, 342, 435, 436, 437, 438, 439, 440, 441, 419, 420, 421, 422, 423, 424, 429, 430, 431, 442, 443, 444] (by decide +kernel) (by decide +kernel)) (goodIn_sub (fun _ h => List.mem_cons_of_mem _ (List.mem_append_left _ (List.mem_append_left _ (List.mem_append_right _ h)))) (by decide +kernel))
set_option maxRecDepth 20000 in
theorem gL_writes_X5_lacks : GoodIn wsL_writes (wsV RL 69 RX5 yX5_lacks wsX5_lacks) := goodIn_app (goodIn_of _ (by decide +kernel)) ggL_writes_X5_lacks
set_option maxRecDepth 20000 in
theorem ggL_writes_X5_grade : GoodIn wsL_writes wsX5_grade := goodIn_ca (goodIn_r _ [354, 327, 290, 291, 292, 10, 293, 16, 17, 228, 294, 92, 93, 94, 95, 96, 97, 178, 179, 180, 181, 182, 183, 184, 185, 186, 187, 188, 189, 190, 191, 192, 193, 121, 355, 356, 357, 252, 358, 264, 359, 163, 137, 164, 360, 136, 138, 265, 361, 337, 338, 339, 340, 341, 342, 435, 436, 437, 438, 439, 440, 441, 419, 420, 421, 422, 423, 424, 429, 430, 431, 442, 443, 444] (by decide +kernel) (by decide +kernel)) (goodIn_sub (fun _ h => List.mem_cons_of_mem _ (List.mem_append_left _ (List.mem_append_left _ (List.mem_append_right _ h)))) (by decide +kernel))
set_option maxRecDepth 20000 in
theorem gL_writes_X5_grade : GoodIn wsL_writes (wsV RL 66 RX5 yX5_grade wsX5_grade) := goodIn_app (goodIn_of _ (by decide +kernel)) ggL_writes_X5_grade
set_option maxRecDepth 20000 in
theorem ggL_writes_X5_place : GoodIn wsL_writes wsX5_place := goodIn_ca (goodIn_r _ [410, 290, 291, 292, 10, 293, 16, 17, 228, 294, 92, 93, 94, 95, 96, 97, 178, 179, 180, 181, 182, 183, 184, 185, 186, 187, 188, 189, 190, 191, 192, 193, 121, 400, 401, 402, 233, 403, 253, 254, 404, 356, 357, 252, 358, 264, 359, 163, 137, 164, 360, 136, 138, 265, 361, 337, 338, 339, 340, 341, 342, 405, 393, 394, 395, 256, 406, 296, 297, 298, 255, 411, 412, 413, 414, 419, 420, 421, 422, 423, 424, 429, 430, 431, 435, 436, 437, 438, 439, 440, 441, 442, 443, 444] (by decide +kernel) (by decide +kernel)) (goodIn_sub (fun _ h => List.mem_cons_of_mem _ (List.mem_append_left _ (List.mem_append_left _ (List.mem_append_right _ h)))) (by decide +kernel))
set_option maxRecDepth 20000 in
theorem gL_writes_X5_place : GoodIn wsL_writes (wsV RL 84 RX5 yX5_place wsX5_place) := goodIn_app (goodIn_of _ (by decide +kernel)) ggL_writes_X5_place
theorem dL_writes_0 : decode cL_writes 0 = .ok (.iload_n 3, 1) := by decide +kernel
theorem dL_writes_1 : decode cL_writes 1 = .ok (.bipush 8, 2) := by decide +kernel
theorem dL_writes_3 : decode cL_writes 3 = .ok (.invokestatic 102, 3) := by decide +kernel
theorem dL_writes_6 : decode cL_writes 6 = .ok (.istore 5, 2) := by decide +kernel
theorem dL_writes_8 : decode cL_writes 8 = .ok (.iload 5, 2) := by decide +kernel
theorem dL_writes_10 : decode cL_writes 10 = .ok (.iconst 2, 1) := by decide +kernel
theorem dL_writes_11 : decode cL_writes 11 = .ok (.if_icmp .ge 82, 3) := by decide +kernel
theorem dL_writes_14 : decode cL_writes 14 = .ok (.iload 4, 2) := by decide +kernel
theorem dL_writes_16 : decode cL_writes 16 = .ok (.iconst 3, 1) := by decide +kernel
theorem dL_writes_17 : decode cL_writes 17 = .ok (.invokestatic 102, 3) := by decide +kernel
theorem dL_writes_20 : decode cL_writes 20 = .ok (.istore 6, 2) := by decide +kernel
theorem dL_writes_22 : decode cL_writes 22 = .ok (.iload 4, 2) := by decide +kernel
theorem dL_writes_24 : decode cL_writes 24 = .ok (.iconst 3, 1) := by decide +kernel
theorem dL_writes_25 : decode cL_writes 25 = .ok (.ishr, 1) := by decide +kernel
theorem dL_writes_26 : decode cL_writes 26 = .ok (.iconst 2, 1) := by decide +kernel
theorem dL_writes_27 : decode cL_writes 27 = .ok (.invokestatic 102, 3) := by decide +kernel
theorem dL_writes_30 : decode cL_writes 30 = .ok (.istore 7, 2) := by decide +kernel
theorem dL_writes_32 : decode cL_writes 32 = .ok (.aload_n 0, 1) := by decide +kernel
theorem dL_writes_33 : decode cL_writes 33 = .ok (.iload 6, 2) := by decide +kernel
theorem dL_writes_35 : decode cL_writes 35 = .ok (.iload 7, 2) := by decide +kernel
theorem dL_writes_37 : decode cL_writes 37 = .ok (.iconst 1, 1) := by decide +kernel
theorem dL_writes_38 : decode cL_writes 38 = .ok (.if_icmp .ne 7, 3) := by decide +kernel
theorem dL_writes_41 : decode cL_writes 41 = .ok (.iconst 1, 1) := by decide +kernel
theorem dL_writes_42 : decode cL_writes 42 = .ok (.goto 4, 3) := by decide +kernel
theorem dL_writes_45 : decode cL_writes 45 = .ok (.iconst 0, 1) := by decide +kernel
theorem dL_writes_46 : decode cL_writes 46 = .ok (.invokevirtual 48, 3) := by decide +kernel
theorem dL_writes_49 : decode cL_writes 49 = .ok (.istore 8, 2) := by decide +kernel
theorem dL_writes_51 : decode cL_writes 51 = .ok (.aload_n 0, 1) := by decide +kernel
theorem dL_writes_52 : decode cL_writes 52 = .ok (.aload_n 1, 1) := by decide +kernel
theorem dL_writes_53 : decode cL_writes 53 = .ok (.iconst 5, 1) := by decide +kernel
theorem dL_writes_54 : decode cL_writes 54 = .ok (.iload 6, 2) := by decide +kernel
theorem dL_writes_56 : decode cL_writes 56 = .ok (.iload 7, 2) := by decide +kernel
theorem dL_writes_58 : decode cL_writes 58 = .ok (.iconst 1, 1) := by decide +kernel
theorem dL_writes_59 : decode cL_writes 59 = .ok (.iload 4, 2) := by decide +kernel
theorem dL_writes_61 : decode cL_writes 61 = .ok (.iconst 5, 1) := by decide +kernel
theorem dL_writes_62 : decode cL_writes 62 = .ok (.ishr, 1) := by decide +kernel
theorem dL_writes_63 : decode cL_writes 63 = .ok (.iconst 4, 1) := by decide +kernel
theorem dL_writes_64 : decode cL_writes 64 = .ok (.invokestatic 102, 3) := by decide +kernel
theorem dL_writes_67 : decode cL_writes 67 = .ok (.iadd, 1) := by decide +kernel
theorem dL_writes_68 : decode cL_writes 68 = .ok (.invokestatic 105, 3) := by decide +kernel
theorem dL_writes_71 : decode cL_writes 71 = .ok (.iload 8, 2) := by decide +kernel
theorem dL_writes_73 : decode cL_writes 73 = .ok (.iconst 1, 1) := by decide +kernel
theorem dL_writes_74 : decode cL_writes 74 = .ok (.iadd, 1) := by decide +kernel
theorem dL_writes_75 : decode cL_writes 75 = .ok (.iload 4, 2) := by decide +kernel
theorem dL_writes_77 : decode cL_writes 77 = .ok (.iconst 5, 1) := by decide +kernel
theorem dL_writes_78 : decode cL_writes 78 = .ok (.ishr, 1) := by decide +kernel
theorem dL_writes_79 : decode cL_writes 79 = .ok (.iconst 4, 1) := by decide +kernel
theorem dL_writes_80 : decode cL_writes 80 = .ok (.invokestatic 102, 3) := by decide +kernel
theorem dL_writes_83 : decode cL_writes 83 = .ok (.iadd, 1) := by decide +kernel
theorem dL_writes_84 : decode cL_writes 84 = .ok (.if_icmp .ne 7, 3) := by decide +kernel
theorem dL_writes_87 : decode cL_writes 87 = .ok (.iconst 1, 1) := by decide +kernel
theorem dL_writes_88 : decode cL_writes 88 = .ok (.goto 4, 3) := by decide +kernel
theorem dL_writes_91 : decode cL_writes 91 = .ok (.iconst 0, 1) := by decide +kernel
theorem dL_writes_92 : decode cL_writes 92 = .ok (.ireturn, 1) := by decide +kernel
theorem dL_writes_93 : decode cL_writes 93 = .ok (.iload 5, 2) := by decide +kernel
theorem dL_writes_95 : decode cL_writes 95 = .ok (.iconst 4, 1) := by decide +kernel
theorem dL_writes_96 : decode cL_writes 96 = .ok (.if_icmp .ge 101, 3) := by decide +kernel
theorem dL_writes_99 : decode cL_writes 99 = .ok (.iload 4, 2) := by decide +kernel
theorem dL_writes_101 : decode cL_writes 101 = .ok (.iconst 4, 1) := by decide +kernel
theorem dL_writes_102 : decode cL_writes 102 = .ok (.invokestatic 102, 3) := by decide +kernel
theorem dL_writes_105 : decode cL_writes 105 = .ok (.istore 6, 2) := by decide +kernel
theorem dL_writes_107 : decode cL_writes 107 = .ok (.aload_n 0, 1) := by decide +kernel
theorem dL_writes_108 : decode cL_writes 108 = .ok (.aload_n 1, 1) := by decide +kernel
theorem dL_writes_109 : decode cL_writes 109 = .ok (.iconst 4, 1) := by decide +kernel
theorem dL_writes_110 : decode cL_writes 110 = .ok (.iload 6, 2) := by decide +kernel
theorem dL_writes_112 : decode cL_writes 112 = .ok (.iconst 5, 1) := by decide +kernel
theorem dL_writes_113 : decode cL_writes 113 = .ok (.iload 4, 2) := by decide +kernel
theorem dL_writes_115 : decode cL_writes 115 = .ok (.iconst 3, 1) := by decide +kernel
theorem dL_writes_116 : decode cL_writes 116 = .ok (.ishr, 1) := by decide +kernel
theorem dL_writes_117 : decode cL_writes 117 = .ok (.bipush 12, 2) := by decide +kernel
theorem dL_writes_119 : decode cL_writes 119 = .ok (.invokestatic 102, 3) := by decide +kernel
theorem dL_writes_122 : decode cL_writes 122 = .ok (.iadd, 1) := by decide +kernel
theorem dL_writes_123 : decode cL_writes 123 = .ok (.iload 4, 2) := by decide +kernel
theorem dL_writes_125 : decode cL_writes 125 = .ok (.bipush 7, 2) := by decide +kernel
theorem dL_writes_127 : decode cL_writes 127 = .ok (.ishr, 1) := by decide +kernel
theorem dL_writes_128 : decode cL_writes 128 = .ok (.iconst 2, 1) := by decide +kernel
theorem dL_writes_129 : decode cL_writes 129 = .ok (.invokestatic 102, 3) := by decide +kernel
theorem dL_writes_132 : decode cL_writes 132 = .ok (.invokestatic 105, 3) := by decide +kernel
theorem dL_writes_135 : decode cL_writes 135 = .ok (.istore 7, 2) := by decide +kernel
theorem dL_writes_137 : decode cL_writes 137 = .ok (.iload 7, 2) := by decide +kernel
theorem dL_writes_139 : decode cL_writes 139 = .ok (.ifCond .lt 19, 3) := by decide +kernel
theorem dL_writes_142 : decode cL_writes 142 = .ok (.aload_n 2, 1) := by decide +kernel
theorem dL_writes_143 : decode cL_writes 143 = .ok (.iconst 4, 1) := by decide +kernel
theorem dL_writes_144 : decode cL_writes 144 = .ok (.aload_n 2, 1) := by decide +kernel
theorem dL_writes_145 : decode cL_writes 145 = .ok (.iconst 1, 1) := by decide +kernel
theorem dL_writes_146 : decode cL_writes 146 = .ok (.iaload, 1) := by decide +kernel
theorem dL_writes_147 : decode cL_writes 147 = .ok (.iadd, 1) := by decide +kernel
theorem dL_writes_148 : decode cL_writes 148 = .ok (.iload 6, 2) := by decide +kernel
theorem dL_writes_150 : decode cL_writes 150 = .ok (.iastore, 1) := by decide +kernel
theorem dL_writes_151 : decode cL_writes 151 = .ok (.aload_n 2, 1) := by decide +kernel
theorem dL_writes_152 : decode cL_writes 152 = .ok (.iconst 1, 1) := by decide +kernel
theorem dL_writes_153 : decode cL_writes 153 = .ok (.dup2, 1) := by decide +kernel
theorem dL_writes_154 : decode cL_writes 154 = .ok (.iaload, 1) := by decide +kernel
theorem dL_writes_155 : decode cL_writes 155 = .ok (.iconst 1, 1) := by decide +kernel
theorem dL_writes_156 : decode cL_writes 156 = .ok (.iadd, 1) := by decide +kernel
theorem dL_writes_157 : decode cL_writes 157 = .ok (.iastore, 1) := by decide +kernel
theorem dL_writes_158 : decode cL_writes 158 = .ok (.iload 7, 2) := by decide +kernel
theorem dL_writes_160 : decode cL_writes 160 = .ok (.ldc 23, 2) := by decide +kernel
theorem dL_writes_162 : decode cL_writes 162 = .ok (.if_icmp .ne 19, 3) := by decide +kernel
theorem dL_writes_165 : decode cL_writes 165 = .ok (.aload_n 2, 1) := by decide +kernel
theorem dL_writes_166 : decode cL_writes 166 = .ok (.iconst 1, 1) := by decide +kernel
theorem dL_writes_167 : decode cL_writes 167 = .ok (.iaload, 1) := by decide +kernel
theorem dL_writes_168 : decode cL_writes 168 = .ok (.bipush 20, 2) := by decide +kernel
theorem dL_writes_170 : decode cL_writes 170 = .ok (.if_icmp .ne 7, 3) := by decide +kernel
theorem dL_writes_173 : decode cL_writes 173 = .ok (.iconst 1, 1) := by decide +kernel
theorem dL_writes_174 : decode cL_writes 174 = .ok (.goto 22, 3) := by decide +kernel
theorem dL_writes_177 : decode cL_writes 177 = .ok (.iconst 0, 1) := by decide +kernel
theorem dL_writes_178 : decode cL_writes 178 = .ok (.goto 18, 3) := by decide +kernel
theorem dL_writes_181 : decode cL_writes 181 = .ok (.iload 7, 2) := by decide +kernel
theorem dL_writes_183 : decode cL_writes 183 = .ok (.aload_n 2, 1) := by decide +kernel
theorem dL_writes_184 : decode cL_writes 184 = .ok (.iconst 1, 1) := by decide +kernel
theorem dL_writes_185 : decode cL_writes 185 = .ok (.iaload, 1) := by decide +kernel
theorem dL_writes_186 : decode cL_writes 186 = .ok (.iconst 1, 1) := by decide +kernel
theorem dL_writes_187 : decode cL_writes 187 = .ok (.isub, 1) := by decide +kernel
theorem dL_writes_188 : decode cL_writes 188 = .ok (.if_icmp .ne 7, 3) := by decide +kernel
theorem dL_writes_191 : decode cL_writes 191 = .ok (.iconst 1, 1) := by decide +kernel
theorem dL_writes_192 : decode cL_writes 192 = .ok (.goto 4, 3) := by decide +kernel
theorem dL_writes_195 : decode cL_writes 195 = .ok (.iconst 0, 1) := by decide +kernel
theorem dL_writes_196 : decode cL_writes 196 = .ok (.ireturn, 1) := by decide +kernel
theorem dL_writes_197 : decode cL_writes 197 = .ok (.aload_n 2, 1) := by decide +kernel
theorem dL_writes_198 : decode cL_writes 198 = .ok (.iconst 0, 1) := by decide +kernel
theorem dL_writes_199 : decode cL_writes 199 = .ok (.iaload, 1) := by decide +kernel
theorem dL_writes_200 : decode cL_writes 200 = .ok (.ifCond .eq 9, 3) := by decide +kernel
theorem dL_writes_203 : decode cL_writes 203 = .ok (.aload_n 2, 1) := by decide +kernel
theorem dL_writes_204 : decode cL_writes 204 = .ok (.iconst 1, 1) := by decide +kernel
theorem dL_writes_205 : decode cL_writes 205 = .ok (.iaload, 1) := by decide +kernel
theorem dL_writes_206 : decode cL_writes 206 = .ok (.ifCond .ne 25, 3) := by decide +kernel
theorem dL_writes_209 : decode cL_writes 209 = .ok (.aload_n 0, 1) := by decide +kernel
theorem dL_writes_210 : decode cL_writes 210 = .ok (.bipush 7, 2) := by decide +kernel
theorem dL_writes_212 : decode cL_writes 212 = .ok (.aload_n 2, 1) := by decide +kernel
theorem dL_writes_213 : decode cL_writes 213 = .ok (.iconst 1, 1) := by decide +kernel
theorem dL_writes_214 : decode cL_writes 214 = .ok (.iaload, 1) := by decide +kernel
theorem dL_writes_215 : decode cL_writes 215 = .ok (.iconst 0, 1) := by decide +kernel
theorem dL_writes_216 : decode cL_writes 216 = .ok (.iconst 0, 1) := by decide +kernel
theorem dL_writes_217 : decode cL_writes 217 = .ok (.invokestatic 98, 3) := by decide +kernel
theorem dL_writes_220 : decode cL_writes 220 = .ok (.ldc 17, 2) := by decide +kernel
theorem dL_writes_222 : decode cL_writes 222 = .ok (.if_icmp .ne 7, 3) := by decide +kernel
theorem dL_writes_225 : decode cL_writes 225 = .ok (.iconst 1, 1) := by decide +kernel
theorem dL_writes_226 : decode cL_writes 226 = .ok (.goto 4, 3) := by decide +kernel
theorem dL_writes_229 : decode cL_writes 229 = .ok (.iconst 0, 1) := by decide +kernel
theorem dL_writes_230 : decode cL_writes 230 = .ok (.ireturn, 1) := by decide +kernel
theorem dL_writes_231 : decode cL_writes 231 = .ok (.iconst 0, 1) := by decide +kernel
theorem dL_writes_232 : decode cL_writes 232 = .ok (.istore 6, 2) := by decide +kernel
theorem dL_writes_234 : decode cL_writes 234 = .ok (.iconst 0, 1) := by decide +kernel
theorem dL_writes_235 : decode cL_writes 235 = .ok (.istore 7, 2) := by decide +kernel
theorem dL_writes_237 : decode cL_writes 237 = .ok (.iload 7, 2) := by decide +kernel
theorem dL_writes_239 : decode cL_writes 239 = .ok (.bipush 6, 2) := by decide +kernel
theorem dL_writes_241 : decode cL_writes 241 = .ok (.if_icmp .ge 33, 3) := by decide +kernel
theorem dL_writes_244 : decode cL_writes 244 = .ok (.iload 6, 2) := by decide +kernel
theorem dL_writes_246 : decode cL_writes 246 = .ok (.aload_n 0, 1) := by decide +kernel
theorem dL_writes_247 : decode cL_writes 247 = .ok (.iload 7, 2) := by decide +kernel
theorem dL_writes_249 : decode cL_writes 249 = .ok (.iconst 3, 1) := by decide +kernel
theorem dL_writes_250 : decode cL_writes 250 = .ok (.irem, 1) := by decide +kernel
theorem dL_writes_251 : decode cL_writes 251 = .ok (.iload 7, 2) := by decide +kernel
theorem dL_writes_253 : decode cL_writes 253 = .ok (.iconst 2, 1) := by decide +kernel
theorem dL_writes_254 : decode cL_writes 254 = .ok (.if_icmp .le 7, 3) := by decide +kernel
theorem dL_writes_257 : decode cL_writes 257 = .ok (.iconst 1, 1) := by decide +kernel
theorem dL_writes_258 : decode cL_writes 258 = .ok (.goto 4, 3) := by decide +kernel
theorem dL_writes_261 : decode cL_writes 261 = .ok (.iconst 0, 1) := by decide +kernel
theorem dL_writes_262 : decode cL_writes 262 = .ok (.invokevirtual 48, 3) := by decide +kernel
theorem dL_writes_265 : decode cL_writes 265 = .ok (.iadd, 1) := by decide +kernel
theorem dL_writes_266 : decode cL_writes 266 = .ok (.istore 6, 2) := by decide +kernel
theorem dL_writes_268 : decode cL_writes 268 = .ok (.iinc 7 1, 3) := by decide +kernel
theorem dL_writes_271 : decode cL_writes 271 = .ok (.goto (-34), 3) := by decide +kernel
theorem dL_writes_274 : decode cL_writes 274 = .ok (.iload 4, 2) := by decide +kernel
theorem dL_writes_276 : decode cL_writes 276 = .ok (.aload_n 2, 1) := by decide +kernel
theorem dL_writes_277 : decode cL_writes 277 = .ok (.iconst 1, 1) := by decide +kernel
theorem dL_writes_278 : decode cL_writes 278 = .ok (.iaload, 1) := by decide +kernel
theorem dL_writes_279 : decode cL_writes 279 = .ok (.invokestatic 102, 3) := by decide +kernel
theorem dL_writes_282 : decode cL_writes 282 = .ok (.istore 7, 2) := by decide +kernel
theorem dL_writes_284 : decode cL_writes 284 = .ok (.iload 4, 2) := by decide +kernel
theorem dL_writes_286 : decode cL_writes 286 = .ok (.iconst 4, 1) := by decide +kernel
theorem dL_writes_287 : decode cL_writes 287 = .ok (.ishr, 1) := by decide +kernel
theorem dL_writes_288 : decode cL_writes 288 = .ok (.aload_n 2, 1) := by decide +kernel
theorem dL_writes_289 : decode cL_writes 289 = .ok (.iconst 0, 1) := by decide +kernel
theorem dL_writes_290 : decode cL_writes 290 = .ok (.iaload, 1) := by decide +kernel
theorem dL_writes_291 : decode cL_writes 291 = .ok (.invokestatic 102, 3) := by decide +kernel
theorem dL_writes_294 : decode cL_writes 294 = .ok (.istore 8, 2) := by decide +kernel
theorem dL_writes_296 : decode cL_writes 296 = .ok (.aload_n 0, 1) := by decide +kernel
theorem dL_writes_297 : decode cL_writes 297 = .ok (.aload_n 1, 1) := by decide +kernel
theorem dL_writes_298 : decode cL_writes 298 = .ok (.bipush 7, 2) := by decide +kernel
theorem dL_writes_300 : decode cL_writes 300 = .ok (.iload 7, 2) := by decide +kernel
theorem dL_writes_302 : decode cL_writes 302 = .ok (.iload 8, 2) := by decide +kernel
theorem dL_writes_304 : decode cL_writes 304 = .ok (.iconst 0, 1) := by decide +kernel
theorem dL_writes_305 : decode cL_writes 305 = .ok (.invokestatic 105, 3) := by decide +kernel
theorem dL_writes_308 : decode cL_writes 308 = .ok (.istore 9, 2) := by decide +kernel
theorem dL_writes_310 : decode cL_writes 310 = .ok (.iconst 0, 1) := by decide +kernel
theorem dL_writes_311 : decode cL_writes 311 = .ok (.istore 10, 2) := by decide +kernel
theorem dL_writes_313 : decode cL_writes 313 = .ok (.iconst 0, 1) := by decide +kernel
theorem dL_writes_314 : decode cL_writes 314 = .ok (.istore 11, 2) := by decide +kernel
theorem dL_writes_316 : decode cL_writes 316 = .ok (.iload 11, 2) := by decide +kernel
theorem dL_writes_318 : decode cL_writes 318 = .ok (.bipush 6, 2) := by decide +kernel
theorem dL_writes_320 : decode cL_writes 320 = .ok (.if_icmp .ge 33, 3) := by decide +kernel
theorem dL_writes_323 : decode cL_writes 323 = .ok (.iload 10, 2) := by decide +kernel
theorem dL_writes_325 : decode cL_writes 325 = .ok (.aload_n 0, 1) := by decide +kernel
theorem dL_writes_326 : decode cL_writes 326 = .ok (.iload 11, 2) := by decide +kernel
theorem dL_writes_328 : decode cL_writes 328 = .ok (.iconst 3, 1) := by decide +kernel
theorem dL_writes_329 : decode cL_writes 329 = .ok (.irem, 1) := by decide +kernel
theorem dL_writes_330 : decode cL_writes 330 = .ok (.iload 11, 2) := by decide +kernel
theorem dL_writes_332 : decode cL_writes 332 = .ok (.iconst 2, 1) := by decide +kernel
theorem dL_writes_333 : decode cL_writes 333 = .ok (.if_icmp .le 7, 3) := by decide +kernel
theorem dL_writes_336 : decode cL_writes 336 = .ok (.iconst 1, 1) := by decide +kernel
theorem dL_writes_337 : decode cL_writes 337 = .ok (.goto 4, 3) := by decide +kernel
theorem dL_writes_340 : decode cL_writes 340 = .ok (.iconst 0, 1) := by decide +kernel
theorem dL_writes_341 : decode cL_writes 341 = .ok (.invokevirtual 48, 3) := by decide +kernel
theorem dL_writes_344 : decode cL_writes 344 = .ok (.iadd, 1) := by decide +kernel
theorem dL_writes_345 : decode cL_writes 345 = .ok (.istore 10, 2) := by decide +kernel
theorem dL_writes_347 : decode cL_writes 347 = .ok (.iinc 11 1, 3) := by decide +kernel
theorem dL_writes_350 : decode cL_writes 350 = .ok (.goto (-34), 3) := by decide +kernel
theorem dL_writes_353 : decode cL_writes 353 = .ok (.iload 9, 2) := by decide +kernel
theorem dL_writes_355 : decode cL_writes 355 = .ok (.ldc 23, 2) := by decide +kernel
theorem dL_writes_357 : decode cL_writes 357 = .ok (.if_icmp .ne 16, 3) := by decide +kernel
theorem dL_writes_360 : decode cL_writes 360 = .ok (.iload 10, 2) := by decide +kernel
theorem dL_writes_362 : decode cL_writes 362 = .ok (.iload 6, 2) := by decide +kernel
theorem dL_writes_364 : decode cL_writes 364 = .ok (.if_icmp .ne 7, 3) := by decide +kernel
theorem dL_writes_367 : decode cL_writes 367 = .ok (.iconst 1, 1) := by decide +kernel
theorem dL_writes_368 : decode cL_writes 368 = .ok (.goto 4, 3) := by decide +kernel
theorem dL_writes_371 : decode cL_writes 371 = .ok (.iconst 0, 1) := by decide +kernel
theorem dL_writes_372 : decode cL_writes 372 = .ok (.ireturn, 1) := by decide +kernel
theorem dL_writes_373 : decode cL_writes 373 = .ok (.iconst 0, 1) := by decide +kernel
theorem dL_writes_374 : decode cL_writes 374 = .ok (.istore 11, 2) := by decide +kernel
theorem dL_writes_376 : decode cL_writes 376 = .ok (.aload_n 0, 1) := by decide +kernel
theorem dL_writes_377 : decode cL_writes 377 = .ok (.iload 8, 2) := by decide +kernel
theorem dL_writes_379 : decode cL_writes 379 = .ok (.iload 11, 2) := by decide +kernel
theorem dL_writes_381 : decode cL_writes 381 = .ok (.invokevirtual 37, 3) := by decide +kernel
theorem dL_writes_384 : decode cL_writes 384 = .ok (.iconst (-1), 1) := by decide +kernel
theorem dL_writes_385 : decode cL_writes 385 = .ok (.if_icmp .eq 9, 3) := by decide +kernel
theorem dL_writes_388 : decode cL_writes 388 = .ok (.iinc 11 1, 3) := by decide +kernel
theorem dL_writes_391 : decode cL_writes 391 = .ok (.goto (-15), 3) := by decide +kernel
theorem dL_writes_394 : decode cL_writes 394 = .ok (.aload_n 2, 1) := by decide +kernel
theorem dL_writes_395 : decode cL_writes 395 = .ok (.iconst 3, 1) := by decide +kernel
theorem dL_writes_396 : decode cL_writes 396 = .ok (.iaload, 1) := by decide +kernel
theorem dL_writes_397 : decode cL_writes 397 = .ok (.aload_n 0, 1) := by decide +kernel
theorem dL_writes_398 : decode cL_writes 398 = .ok (.iload 9, 2) := by decide +kernel
theorem dL_writes_400 : decode cL_writes 400 = .ok (.iconst 1, 1) := by decide +kernel
theorem dL_writes_401 : decode cL_writes 401 = .ok (.invokevirtual 55, 3) := by decide +kernel
theorem dL_writes_404 : decode cL_writes 404 = .ok (.isub, 1) := by decide +kernel
theorem dL_writes_405 : decode cL_writes 405 = .ok (.istore 12, 2) := by decide +kernel
theorem dL_writes_407 : decode cL_writes 407 = .ok (.aload_n 2, 1) := by decide +kernel
theorem dL_writes_408 : decode cL_writes 408 = .ok (.bipush 24, 2) := by decide +kernel
theorem dL_writes_410 : decode cL_writes 410 = .ok (.aload_n 2, 1) := by decide +kernel
theorem dL_writes_411 : decode cL_writes 411 = .ok (.iconst 2, 1) := by decide +kernel
theorem dL_writes_412 : decode cL_writes 412 = .ok (.iaload, 1) := by decide +kernel
theorem dL_writes_413 : decode cL_writes 413 = .ok (.iadd, 1) := by decide +kernel
theorem dL_writes_414 : decode cL_writes 414 = .ok (.iload 7, 2) := by decide +kernel
theorem dL_writes_416 : decode cL_writes 416 = .ok (.iastore, 1) := by decide +kernel
theorem dL_writes_417 : decode cL_writes 417 = .ok (.aload_n 2, 1) := by decide +kernel
theorem dL_writes_418 : decode cL_writes 418 = .ok (.iconst 2, 1) := by decide +kernel
theorem dL_writes_419 : decode cL_writes 419 = .ok (.dup2, 1) := by decide +kernel
theorem dL_writes_420 : decode cL_writes 420 = .ok (.iaload, 1) := by decide +kernel
theorem dL_writes_421 : decode cL_writes 421 = .ok (.iconst 1, 1) := by decide +kernel
theorem dL_writes_422 : decode cL_writes 422 = .ok (.iadd, 1) := by decide +kernel
theorem dL_writes_423 : decode cL_writes 423 = .ok (.iastore, 1) := by decide +kernel
theorem dL_writes_424 : decode cL_writes 424 = .ok (.aload_n 2, 1) := by decide +kernel
theorem dL_writes_425 : decode cL_writes 425 = .ok (.iconst 3, 1) := by decide +kernel
theorem dL_writes_426 : decode cL_writes 426 = .ok (.iconst 0, 1) := by decide +kernel
theorem dL_writes_427 : decode cL_writes 427 = .ok (.iastore, 1) := by decide +kernel
theorem dL_writes_428 : decode cL_writes 428 = .ok (.iload 10, 2) := by decide +kernel
theorem dL_writes_430 : decode cL_writes 430 = .ok (.iload 6, 2) := by decide +kernel
theorem dL_writes_432 : decode cL_writes 432 = .ok (.iconst 1, 1) := by decide +kernel
theorem dL_writes_433 : decode cL_writes 433 = .ok (.isub, 1) := by decide +kernel
theorem dL_writes_434 : decode cL_writes 434 = .ok (.if_icmp .ne 108, 3) := by decide +kernel
theorem dL_writes_437 : decode cL_writes 437 = .ok (.iload 9, 2) := by decide +kernel
theorem dL_writes_439 : decode cL_writes 439 = .ok (.aload_n 2, 1) := by decide +kernel
theorem dL_writes_440 : decode cL_writes 440 = .ok (.iconst 2, 1) := by decide +kernel
theorem dL_writes_441 : decode cL_writes 441 = .ok (.iaload, 1) := by decide +kernel
theorem dL_writes_442 : decode cL_writes 442 = .ok (.iconst 1, 1) := by decide +kernel
theorem dL_writes_443 : decode cL_writes 443 = .ok (.isub, 1) := by decide +kernel
theorem dL_writes_444 : decode cL_writes 444 = .ok (.if_icmp .ne 98, 3) := by decide +kernel
theorem dL_writes_447 : decode cL_writes 447 = .ok (.aload_n 0, 1) := by decide +kernel
theorem dL_writes_448 : decode cL_writes 448 = .ok (.iload 9, 2) := by decide +kernel
theorem dL_writes_450 : decode cL_writes 450 = .ok (.iconst 0, 1) := by decide +kernel
theorem dL_writes_451 : decode cL_writes 451 = .ok (.invokevirtual 55, 3) := by decide +kernel
theorem dL_writes_454 : decode cL_writes 454 = .ok (.iload 12, 2) := by decide +kernel
theorem dL_writes_456 : decode cL_writes 456 = .ok (.iadd, 1) := by decide +kernel
theorem dL_writes_457 : decode cL_writes 457 = .ok (.iload 11, 2) := by decide +kernel
theorem dL_writes_459 : decode cL_writes 459 = .ok (.if_icmp .ne 83, 3) := by decide +kernel
theorem dL_writes_462 : decode cL_writes 462 = .ok (.aload_n 0, 1) := by decide +kernel
theorem dL_writes_463 : decode cL_writes 463 = .ok (.iload 9, 2) := by decide +kernel
theorem dL_writes_465 : decode cL_writes 465 = .ok (.iconst 2, 1) := by decide +kernel
theorem dL_writes_466 : decode cL_writes 466 = .ok (.invokevirtual 55, 3) := by decide +kernel
theorem dL_writes_469 : decode cL_writes 469 = .ok (.iload 12, 2) := by decide +kernel
theorem dL_writes_471 : decode cL_writes 471 = .ok (.if_icmp .gt 71, 3) := by decide +kernel
theorem dL_writes_474 : decode cL_writes 474 = .ok (.aload_n 0, 1) := by decide +kernel
theorem dL_writes_475 : decode cL_writes 475 = .ok (.iload 9, 2) := by decide +kernel
theorem dL_writes_477 : decode cL_writes 477 = .ok (.iconst 3, 1) := by decide +kernel
theorem dL_writes_478 : decode cL_writes 478 = .ok (.invokevirtual 55, 3) := by decide +kernel
theorem dL_writes_481 : decode cL_writes 481 = .ok (.iload 12, 2) := by decide +kernel
theorem dL_writes_483 : decode cL_writes 483 = .ok (.ifCond .le 10, 3) := by decide +kernel
theorem dL_writes_486 : decode cL_writes 486 = .ok (.iload 12, 2) := by decide +kernel
theorem dL_writes_488 : decode cL_writes 488 = .ok (.iconst 1, 1) := by decide +kernel
theorem dL_writes_489 : decode cL_writes 489 = .ok (.isub, 1) := by decide +kernel
theorem dL_writes_490 : decode cL_writes 490 = .ok (.goto 4, 3) := by decide +kernel
theorem dL_writes_493 : decode cL_writes 493 = .ok (.iconst 0, 1) := by decide +kernel
theorem dL_writes_494 : decode cL_writes 494 = .ok (.if_icmp .gt 48, 3) := by decide +kernel
theorem dL_writes_497 : decode cL_writes 497 = .ok (.aload_n 0, 1) := by decide +kernel
theorem dL_writes_498 : decode cL_writes 498 = .ok (.iload 9, 2) := by decide +kernel
theorem dL_writes_500 : decode cL_writes 500 = .ok (.iconst 4, 1) := by decide +kernel
theorem dL_writes_501 : decode cL_writes 501 = .ok (.invokevirtual 55, 3) := by decide +kernel
theorem dL_writes_504 : decode cL_writes 504 = .ok (.iconst 1, 1) := by decide +kernel
theorem dL_writes_505 : decode cL_writes 505 = .ok (.if_icmp .gt 37, 3) := by decide +kernel
theorem dL_writes_508 : decode cL_writes 508 = .ok (.aload_n 0, 1) := by decide +kernel
theorem dL_writes_509 : decode cL_writes 509 = .ok (.iload 9, 2) := by decide +kernel
theorem dL_writes_511 : decode cL_writes 511 = .ok (.invokevirtual 69, 3) := by decide +kernel
theorem dL_writes_514 : decode cL_writes 514 = .ok (.iconst 2, 1) := by decide +kernel
theorem dL_writes_515 : decode cL_writes 515 = .ok (.if_icmp .ne 27, 3) := by decide +kernel
theorem dL_writes_518 : decode cL_writes 518 = .ok (.aload_n 0, 1) := by decide +kernel
theorem dL_writes_519 : decode cL_writes 519 = .ok (.iload 9, 2) := by decide +kernel
theorem dL_writes_521 : decode cL_writes 521 = .ok (.invokevirtual 66, 3) := by decide +kernel
theorem dL_writes_524 : decode cL_writes 524 = .ok (.iconst (-1), 1) := by decide +kernel
theorem dL_writes_525 : decode cL_writes 525 = .ok (.if_icmp .ne 17, 3) := by decide +kernel
theorem dL_writes_528 : decode cL_writes 528 = .ok (.aload_n 0, 1) := by decide +kernel
theorem dL_writes_529 : decode cL_writes 529 = .ok (.iload 9, 2) := by decide +kernel
theorem dL_writes_531 : decode cL_writes 531 = .ok (.invokevirtual 84, 3) := by decide +kernel
theorem dL_writes_534 : decode cL_writes 534 = .ok (.iconst (-1), 1) := by decide +kernel
theorem dL_writes_535 : decode cL_writes 535 = .ok (.if_icmp .ne 7, 3) := by decide +kernel
theorem dL_writes_538 : decode cL_writes 538 = .ok (.iconst 1, 1) := by decide +kernel
theorem dL_writes_539 : decode cL_writes 539 = .ok (.goto 4, 3) := by decide +kernel
theorem dL_writes_542 : decode cL_writes 542 = .ok (.iconst 0, 1) := by decide +kernel
theorem dL_writes_543 : decode cL_writes 543 = .ok (.ireturn, 1) := by decide +kernel
