set_option maxRecDepth 20000 in
theorem ggL_grades_L_call : GoodIn wsL_grades wsL_call := goodIn_ca (goodIn_ca (goodIn_ca (goodIn_r _ [7, 8, 9, 10, 1, 11, 2, 12, 13, 6, 14, 15, 16, 17, 18, 19, 20, 21, 22, 23, 24, 25, 26, 27, 28, 29, 30, 31, 32, 33, 34, 35, 36, 37, 38, 39, 40, 41, 42, 43, 44, 45, 46, 47, 48, 49, 50, 51, 52, 53, 54, 55, 56, 57, 58, 59, 60, 61, 62, 63, 64, 65, 66, 67, 68, 69, 70, 71, 72, 73, 74, 75, 76, 77, 78, 79, 80, 81, 82, 3, 83, 84, 85, 86, 87, 88, 89, 90, 91, 92, 93, 94, 95, 96, 97, 98, 99, 100, 101, 102, 103, 104, 105, 106, 107, 108, 109, 110, 111, 112, 113, 114, 115, 116, 117, 118, 119, 120, 121, 122, 123, 124, 125, 126, 127, 128, 129, 130, 131, 132, 133, 134, 135, 136, 137, 138, 139, 140, 141, 142, 143, 144, 145, 146, 147, 148, 149, 150, 151, 152, 153, 154, 155, 156, 157, 158, 159, 160, 161, 162, 163, 164, 165, 166, 167, 168, 169, 170, 171, 172, 173, 174, 175, 176, 177, 178, 179, 180, 181, 182, 183, 184, 185, 186, 187, 188, 189, 190, 191, 192, 193, 194, 195, 196, 197, 198, 199, 200, 201, 202, 203, 204, 205, 206, 207, 208, 209, 210, 211, 212, 213, 214, 215, 216, 217, 218, 219, 220, 221, 222, 223, 224, 225, 226, 227, 228, 229, 230, 231, 232, 233, 234, 235, 236, 237, 238, 239, 240, 241, 242, 243, 244, 245, 246, 247, 248, 249, 250, 251, 252, 253, 254, 255, 256, 257, 258, 259, 260, 261, 262, 263, 264, 265, 266, 267, 268, 269, 270, 271, 272, 273, 274, 275, 276, 277, 278, 279, 280, 281, 282, 283, 284, 285, 286, 287, 288, 289, 290, 291, 292, 293, 294, 295, 296, 297, 298, 299, 300, 301, 302, 303, 304, 305, 306, 307, 308, 309, 310, 311, 312, 313, 314, 315, 316, 317, 318, 319, 320, 321, 322, 323, 324, 325, 326, 327, 328, 329, 330, 331, 332, 333, 334, 335, 336, 337, 338, 339, 340, 341, 342, 343, 344, 345, 346, 347, 348, 349, 350, 351, 352, 353, 354, 355, 356, 357, 358, 359, 360, 361, 362, 363, 364, 365, 366, 367, 368, 369, 370, 371, 372, 373, 374, 375, 376, 377, 378, 379, 380, 381, 382, 383, 384, 385, 386, 387, 388, 389, 390, 391, 392, 393, 394, 395, 396, 397, 398, 399, 400, 401, 402, 403, 404, 405, 406, 407, 408, 409, 410, 411, 419, 420, 421, 422, 423, 424, 425, 426, 427, 428, 429, 430, 431, 432, 433, 434, 435, 436, 437, 438, 439, 440, 441, 442, 443, 444] (by decide +kernel) (by decide +kernel)) (goodIn_sub (fun _ h => List.mem_cons_of_mem _ (List.mem_append_left _ (List.mem_append_left _ (List.mem_append_right _ h)))) (by decide +kernel))) (goodIn_sub (fun _ h => List.mem_cons_of_mem _ (List.mem_append_left _ (List.mem_append_right _ h))) (by decide +kernel))) (goodIn_sub (fun _ h => List.mem_cons_of_mem _ (List.mem_append_right _ h)) (by decide +kernel))
set_option maxRecDepth 20000 in
theorem gL_grades_L_call : GoodIn wsL_grades (va_wsS RL 98 yL_call wsL_call) := goodIn_app (goodIn_of _ (by decide +kernel)) ggL_grades_L_call
set_option maxRecDepth 20000 in
theorem ggL_grades_X5_at : GoodIn wsL_grades wsX5_at := goodIn_ca (goodIn_r _ [411, 28, 29, 221, 287, 71, 72, 73, 74, 75, 76, 156, 157, 158, 159, 160, 161, 162, 163, 164, 165, 166, 167, 168, 169, 170, 171, 99, 393, 394, 395, 226, 396, 246, 247, 397, 349, 350, 245, 351, 257, 352, 141, 115, 142, 353, 114, 116, 258, 354, 330, 331, 332, 333, 334, 335, 398, 386, 387, 388, 249, 399, 289, 290, 291, 248, 404, 405, 406, 18, 407, 419, 420, 421, 422, 423, 424, 427, 428, 429, 435, 436, 437, 438, 439, 440, 441, 442, 443, 444] (by decide +kernel) (by decide +kernel)) (goodIn_sub (fun _ h => List.mem_cons_of_mem _ (List.mem_append_right _ h)) (by decide +kernel))
set_option maxRecDepth 20000 in
theorem gL_grades_X5_at : GoodIn wsL_grades (wsV RL 87 RX5 yX5_at wsX5_at) := goodIn_app (goodIn_of _ (by decide +kernel)) ggL_grades_X5_at
set_option maxRecDepth 20000 in
theorem ggL_grades_L_some : GoodIn wsL_grades wsL_some := goodIn_r _ [414] (by decide +kernel) (by decide +kernel)
set_option maxRecDepth 20000 in
theorem gL_grades_L_some : GoodIn wsL_grades (va_wsS RL 102 yL_some wsL_some) := goodIn_app (goodIn_of _ (by decide +kernel)) ggL_grades_L_some
set_option maxRecDepth 20000 in
theorem ggL_grades_X5_grade : GoodIn wsL_grades wsX5_grade := goodIn_ca (goodIn_r _ [347, 320, 283, 284, 285, 18, 286, 28, 29, 221, 287, 71, 72, 73, 74, 75, 76, 156, 157, 158, 159, 160, 161, 162, 163, 164, 165, 166, 167, 168, 169, 170, 171, 99, 348, 349, 350, 245, 351, 257, 352, 141, 115, 142, 353, 114, 116, 258, 354, 330, 331, 332, 333, 334, 335, 435, 436, 437, 438, 439, 440, 441, 419, 420, 421, 422, 423, 424, 427, 428, 429, 442, 443, 444] (by decide +kernel) (by decide +kernel)) (goodIn_sub (fun _ h => List.mem_cons_of_mem _ (List.mem_append_right _ h)) (by decide +kernel))
set_option maxRecDepth 20000 in
theorem gL_grades_X5_grade : GoodIn wsL_grades (wsV RL 66 RX5 yX5_grade wsX5_grade) := goodIn_app (goodIn_of _ (by decide +kernel)) ggL_grades_X5_grade
set_option maxRecDepth 20000 in
theorem ggL_grades_X5_lacks : GoodIn wsL_grades wsX5_lacks := goodIn_ca (goodIn_r _ [358, 320, 283, 284, 285, 18, 286, 28, 29, 221, 287, 71, 72, 73, 74, 75, 76, 156, 157, 158, 159, 160, 161, 162, 163, 164, 165, 166, 167, 168, 169, 170, 171, 99, 329, 330, 331, 245, 332, 258, 257, 333, 334, 115, 335, 435, 436, 437, 438, 439, 440, 441, 419, 420, 421, 422, 423, 424, 427, 428, 429, 442, 443, 444] (by decide +kernel) (by decide +kernel)) (goodIn_sub (fun _ h => List.mem_cons_of_mem _ (List.mem_append_right _ h)) (by decide +kernel))
set_option maxRecDepth 20000 in
theorem gL_grades_X5_lacks : GoodIn wsL_grades (wsV RL 69 RX5 yX5_lacks wsX5_lacks) := goodIn_app (goodIn_of _ (by decide +kernel)) ggL_grades_X5_lacks
set_option maxRecDepth 20000 in
theorem ggL_grades_L_both : GoodIn wsL_grades wsL_both := goodIn_ca (goodIn_ca (goodIn_ca (goodIn_r _ [417, 418, 4, 5, 6, 7, 8, 9, 10, 1, 11, 2, 12, 13, 14, 15, 16, 17, 18, 19, 20, 21, 22, 23, 24, 25, 26, 27, 28, 29, 30, 31, 32, 33, 34, 35, 36, 37, 38, 39, 40, 41, 42, 43, 44, 45, 46, 47, 48, 49, 50, 51, 52, 53, 54, 55, 56, 57, 58, 59, 60, 61, 62, 63, 64, 65, 66, 67, 68, 69, 70, 71, 72, 73, 74, 75, 76, 77, 78, 79, 80, 81, 82, 3, 83, 84, 85, 86, 87, 88, 89, 90, 91, 92, 93, 94, 95, 96, 97, 98, 99, 100, 101, 102, 103, 104, 105, 106, 107, 108, 109, 110, 111, 112, 113, 114, 115, 116, 117, 118, 119, 120, 121, 122, 123, 124, 125, 126, 127, 128, 129, 130, 131, 132, 133, 134, 135, 136, 137, 138, 139, 140, 141, 142, 143, 144, 145, 146, 147, 148, 149, 150, 151, 152, 153, 154, 155, 156, 157, 158, 159, 160, 161, 162, 163, 164, 165, 166, 167, 168, 169, 170, 171, 172, 173, 174, 175, 176, 177, 178, 179, 180, 181, 182, 183, 184, 185, 186, 187, 188, 189, 190, 191, 192, 193, 194, 195, 196, 197, 198, 199, 200, 201, 202, 203, 204, 205, 206, 207, 208, 209, 210, 211, 212, 213, 214, 215, 216, 217, 218, 219, 220, 221, 222, 223, 224, 225, 226, 227, 228, 229, 230, 231, 232, 233, 234, 235, 236, 237, 238, 239, 240, 241, 242, 243, 244, 245, 246, 247, 248, 249, 250, 251, 252, 253, 254, 255, 256, 257, 258, 259, 260, 261, 262, 263, 264, 265, 266, 267, 268, 269, 270, 271, 272, 273, 274, 275, 276, 277, 278, 279, 280, 281, 282, 283, 284, 285, 286, 287, 288, 289, 290, 291, 292, 293, 294, 295, 296, 297, 298, 299, 300, 301, 302, 303, 304, 305, 306, 307, 308, 309, 310, 311, 312, 313, 314, 315, 316, 317, 318, 319, 320, 321, 322, 323, 324, 325, 326, 327, 328, 329, 330, 331, 332, 333, 334, 335, 336, 337, 338, 339, 340, 341, 342, 343, 344, 345, 346, 347, 348, 349, 350, 351, 352, 353, 354, 355, 356, 357, 358, 359, 360, 361, 362, 363, 364, 365, 366, 367, 368, 369, 370, 371, 372, 373, 374, 375, 376, 377, 378, 379, 380, 381, 382, 383, 384, 385, 386, 387, 388, 389, 390, 391, 392, 393, 394, 395, 396, 397, 398, 399, 400, 401, 402, 403, 404, 405, 406, 407, 408, 409, 410, 411, 419, 420, 421, 422, 423, 424, 425, 426, 427, 428, 429, 430, 431, 432, 433, 434, 435, 436, 437, 438, 439, 440, 441, 442, 443, 444] (by decide +kernel) (by decide +kernel)) (goodIn_sub (fun _ h => List.mem_cons_of_mem _ (List.mem_append_left _ (List.mem_append_left _ (List.mem_append_right _ h)))) (by decide +kernel))) (goodIn_sub (fun _ h => List.mem_cons_of_mem _ (List.mem_append_left _ (List.mem_append_right _ h))) (by decide +kernel))) (goodIn_sub (fun _ h => List.mem_cons_of_mem _ (List.mem_append_right _ h)) (by decide +kernel))
set_option maxRecDepth 20000 in
theorem gL_grades_L_both : GoodIn wsL_grades (va_wsS RL 105 yL_both wsL_both) := goodIn_app (goodIn_of _ (by decide +kernel)) ggL_grades_L_both
set_option maxRecDepth 20000 in
theorem ggL_grades_X5_worth : GoodIn wsL_grades wsX5_worth := goodIn_ca (goodIn_r _ [392, 283, 284, 285, 18, 286, 28, 29, 221, 287, 71, 72, 73, 74, 75, 76, 156, 157, 158, 159, 160, 161, 162, 163, 164, 165, 166, 167, 168, 169, 170, 171, 99, 393, 394, 395, 226, 396, 246, 247, 397, 349, 350, 245, 351, 257, 352, 141, 115, 142, 353, 114, 116, 258, 354, 330, 331, 332, 333, 334, 335, 398, 386, 387, 388, 249, 399, 289, 290, 291, 248, 419, 420, 421, 422, 423, 424, 427, 428, 429, 435, 436, 437, 438, 439, 440, 441, 442, 443, 444] (by decide +kernel) (by decide +kernel)) (goodIn_sub (fun _ h => List.mem_cons_of_mem _ (List.mem_append_right _ h)) (by decide +kernel))
set_option maxRecDepth 20000 in
theorem gL_grades_X5_worth : GoodIn wsL_grades (wsV RL 81 RX5 yX5_worth wsX5_worth) := goodIn_app (goodIn_of _ (by decide +kernel)) ggL_grades_X5_worth
set_option maxRecDepth 20000 in
theorem ggL_grades_X5_slips : GoodIn wsL_grades wsX5_slips := goodIn_ca (goodIn_ca (goodIn_r _ [282, 20, 21, 283, 284, 285, 18, 286, 28, 29, 221, 287, 71, 72, 73, 74, 75, 76, 156, 157, 158, 159, 160, 161, 162, 163, 164, 165, 166, 167, 168, 169, 170, 171, 99, 288, 289, 290, 226, 291, 248, 292, 293, 294, 295, 419, 420, 421, 422, 423, 424, 427, 428, 429, 435, 436, 437, 438, 439, 440, 441] (by decide +kernel) (by decide +kernel)) (goodIn_sub (fun _ h => List.mem_cons_of_mem _ (List.mem_append_left _ (List.mem_append_left _ (List.mem_append_right _ h)))) (by decide +kernel))) (goodIn_sub (fun _ h => List.mem_cons_of_mem _ (List.mem_append_right _ h)) (by decide +kernel))
set_option maxRecDepth 20000 in
theorem gL_grades_X5_slips : GoodIn wsL_grades (wsV RL 55 RX5 yX5_slips wsX5_slips) := goodIn_app (goodIn_of _ (by decide +kernel)) ggL_grades_X5_slips
set_option maxRecDepth 20000 in
theorem ggL_grades_X5_place : GoodIn wsL_grades wsX5_place := goodIn_ca (goodIn_r _ [403, 283, 284, 285, 18, 286, 28, 29, 221, 287, 71, 72, 73, 74, 75, 76, 156, 157, 158, 159, 160, 161, 162, 163, 164, 165, 166, 167, 168, 169, 170, 171, 99, 393, 394, 395, 226, 396, 246, 247, 397, 349, 350, 245, 351, 257, 352, 141, 115, 142, 353, 114, 116, 258, 354, 330, 331, 332, 333, 334, 335, 398, 386, 387, 388, 249, 399, 289, 290, 291, 248, 404, 405, 406, 407, 419, 420, 421, 422, 423, 424, 427, 428, 429, 435, 436, 437, 438, 439, 440, 441, 442, 443, 444] (by decide +kernel) (by decide +kernel)) (goodIn_sub (fun _ h => List.mem_cons_of_mem _ (List.mem_append_right _ h)) (by decide +kernel))
set_option maxRecDepth 20000 in
theorem gL_grades_X5_place : GoodIn wsL_grades (wsV RL 84 RX5 yX5_place wsX5_place) := goodIn_app (goodIn_of _ (by decide +kernel)) ggL_grades_X5_place
theorem dL_grades_0 : decode cL_grades 0 = .ok (.aload_n 2, 1) := by decide +kernel
theorem dL_grades_1 : decode cL_grades 1 = .ok (.iconst 2, 1) := by decide +kernel
theorem dL_grades_2 : decode cL_grades 2 = .ok (.iaload, 1) := by decide +kernel
theorem dL_grades_3 : decode cL_grades 3 = .ok (.ifCond .ne 46, 3) := by decide +kernel
theorem dL_grades_6 : decode cL_grades 6 = .ok (.aload_n 0, 1) := by decide +kernel
theorem dL_grades_7 : decode cL_grades 7 = .ok (.bipush 10, 2) := by decide +kernel
theorem dL_grades_9 : decode cL_grades 9 = .ok (.iconst 0, 1) := by decide +kernel
theorem dL_grades_10 : decode cL_grades 10 = .ok (.iconst 0, 1) := by decide +kernel
theorem dL_grades_11 : decode cL_grades 11 = .ok (.iconst 0, 1) := by decide +kernel
theorem dL_grades_12 : decode cL_grades 12 = .ok (.invokestatic 98, 3) := by decide +kernel
theorem dL_grades_15 : decode cL_grades 15 = .ok (.ldc 17, 2) := by decide +kernel
theorem dL_grades_17 : decode cL_grades 17 = .ok (.if_icmp .ne 30, 3) := by decide +kernel
theorem dL_grades_20 : decode cL_grades 20 = .ok (.aload_n 0, 1) := by decide +kernel
theorem dL_grades_21 : decode cL_grades 21 = .ok (.bipush 11, 2) := by decide +kernel
theorem dL_grades_23 : decode cL_grades 23 = .ok (.iconst 0, 1) := by decide +kernel
theorem dL_grades_24 : decode cL_grades 24 = .ok (.iconst 0, 1) := by decide +kernel
theorem dL_grades_25 : decode cL_grades 25 = .ok (.iconst 0, 1) := by decide +kernel
theorem dL_grades_26 : decode cL_grades 26 = .ok (.invokestatic 98, 3) := by decide +kernel
theorem dL_grades_29 : decode cL_grades 29 = .ok (.ldc 17, 2) := by decide +kernel
theorem dL_grades_31 : decode cL_grades 31 = .ok (.if_icmp .ne 16, 3) := by decide +kernel
theorem dL_grades_34 : decode cL_grades 34 = .ok (.aload_n 0, 1) := by decide +kernel
theorem dL_grades_35 : decode cL_grades 35 = .ok (.iconst 1, 1) := by decide +kernel
theorem dL_grades_36 : decode cL_grades 36 = .ok (.invokevirtual 87, 3) := by decide +kernel
theorem dL_grades_39 : decode cL_grades 39 = .ok (.iconst (-1), 1) := by decide +kernel
theorem dL_grades_40 : decode cL_grades 40 = .ok (.if_icmp .ne 7, 3) := by decide +kernel
theorem dL_grades_43 : decode cL_grades 43 = .ok (.iconst 1, 1) := by decide +kernel
theorem dL_grades_44 : decode cL_grades 44 = .ok (.goto 4, 3) := by decide +kernel
theorem dL_grades_47 : decode cL_grades 47 = .ok (.iconst 0, 1) := by decide +kernel
theorem dL_grades_48 : decode cL_grades 48 = .ok (.ireturn, 1) := by decide +kernel
theorem dL_grades_49 : decode cL_grades 49 = .ok (.iload 4, 2) := by decide +kernel
theorem dL_grades_51 : decode cL_grades 51 = .ok (.aload_n 2, 1) := by decide +kernel
theorem dL_grades_52 : decode cL_grades 52 = .ok (.iconst 2, 1) := by decide +kernel
theorem dL_grades_53 : decode cL_grades 53 = .ok (.iaload, 1) := by decide +kernel
theorem dL_grades_54 : decode cL_grades 54 = .ok (.invokestatic 102, 3) := by decide +kernel
theorem dL_grades_57 : decode cL_grades 57 = .ok (.istore 5, 2) := by decide +kernel
theorem dL_grades_59 : decode cL_grades 59 = .ok (.iload_n 3, 1) := by decide +kernel
theorem dL_grades_60 : decode cL_grades 60 = .ok (.bipush 14, 2) := by decide +kernel
theorem dL_grades_62 : decode cL_grades 62 = .ok (.invokestatic 102, 3) := by decide +kernel
theorem dL_grades_65 : decode cL_grades 65 = .ok (.istore 6, 2) := by decide +kernel
theorem dL_grades_67 : decode cL_grades 67 = .ok (.aload_n 0, 1) := by decide +kernel
theorem dL_grades_68 : decode cL_grades 68 = .ok (.iload 5, 2) := by decide +kernel
theorem dL_grades_70 : decode cL_grades 70 = .ok (.invokevirtual 66, 3) := by decide +kernel
theorem dL_grades_73 : decode cL_grades 73 = .ok (.istore 7, 2) := by decide +kernel
theorem dL_grades_75 : decode cL_grades 75 = .ok (.aload_n 0, 1) := by decide +kernel
theorem dL_grades_76 : decode cL_grades 76 = .ok (.iload 5, 2) := by decide +kernel
theorem dL_grades_78 : decode cL_grades 78 = .ok (.invokevirtual 69, 3) := by decide +kernel
theorem dL_grades_81 : decode cL_grades 81 = .ok (.istore 8, 2) := by decide +kernel
theorem dL_grades_83 : decode cL_grades 83 = .ok (.iload 6, 2) := by decide +kernel
theorem dL_grades_85 : decode cL_grades 85 = .ok (.bipush 7, 2) := by decide +kernel
theorem dL_grades_87 : decode cL_grades 87 = .ok (.if_icmp .ge 165, 3) := by decide +kernel
theorem dL_grades_90 : decode cL_grades 90 = .ok (.iload 4, 2) := by decide +kernel
theorem dL_grades_92 : decode cL_grades 92 = .ok (.iconst 5, 1) := by decide +kernel
theorem dL_grades_93 : decode cL_grades 93 = .ok (.ishr, 1) := by decide +kernel
theorem dL_grades_94 : decode cL_grades 94 = .ok (.iload_n 3, 1) := by decide +kernel
theorem dL_grades_95 : decode cL_grades 95 = .ok (.iconst 4, 1) := by decide +kernel
theorem dL_grades_96 : decode cL_grades 96 = .ok (.ishr, 1) := by decide +kernel
theorem dL_grades_97 : decode cL_grades 97 = .ok (.iconst 2, 1) := by decide +kernel
theorem dL_grades_98 : decode cL_grades 98 = .ok (.invokestatic 102, 3) := by decide +kernel
theorem dL_grades_101 : decode cL_grades 101 = .ok (.ifCond .ne 8, 3) := by decide +kernel
theorem dL_grades_104 : decode cL_grades 104 = .ok (.bipush 21, 2) := by decide +kernel
theorem dL_grades_106 : decode cL_grades 106 = .ok (.goto 5, 3) := by decide +kernel
theorem dL_grades_109 : decode cL_grades 109 = .ok (.bipush 8, 2) := by decide +kernel
theorem dL_grades_111 : decode cL_grades 111 = .ok (.invokestatic 102, 3) := by decide +kernel
theorem dL_grades_114 : decode cL_grades 114 = .ok (.istore 9, 2) := by decide +kernel
theorem dL_grades_116 : decode cL_grades 116 = .ok (.aload_n 0, 1) := by decide +kernel
theorem dL_grades_117 : decode cL_grades 117 = .ok (.aload_n 1, 1) := by decide +kernel
theorem dL_grades_118 : decode cL_grades 118 = .ok (.bipush 10, 2) := by decide +kernel
theorem dL_grades_120 : decode cL_grades 120 = .ok (.iload 4, 2) := by decide +kernel
theorem dL_grades_122 : decode cL_grades 122 = .ok (.bipush 9, 2) := by decide +kernel
theorem dL_grades_124 : decode cL_grades 124 = .ok (.ishr, 1) := by decide +kernel
theorem dL_grades_125 : decode cL_grades 125 = .ok (.bipush 6, 2) := by decide +kernel
theorem dL_grades_127 : decode cL_grades 127 = .ok (.invokestatic 102, 3) := by decide +kernel
theorem dL_grades_130 : decode cL_grades 130 = .ok (.iload 5, 2) := by decide +kernel
theorem dL_grades_132 : decode cL_grades 132 = .ok (.iload 9, 2) := by decide +kernel
theorem dL_grades_134 : decode cL_grades 134 = .ok (.invokestatic 105, 3) := by decide +kernel
theorem dL_grades_137 : decode cL_grades 137 = .ok (.istore 10, 2) := by decide +kernel
theorem dL_grades_139 : decode cL_grades 139 = .ok (.iload 10, 2) := by decide +kernel
theorem dL_grades_141 : decode cL_grades 141 = .ok (.ldc 23, 2) := by decide +kernel
theorem dL_grades_143 : decode cL_grades 143 = .ok (.if_icmp .ne 33, 3) := by decide +kernel
theorem dL_grades_146 : decode cL_grades 146 = .ok (.aload_n 0, 1) := by decide +kernel
theorem dL_grades_147 : decode cL_grades 147 = .ok (.iload 5, 2) := by decide +kernel
theorem dL_grades_149 : decode cL_grades 149 = .ok (.invokevirtual 66, 3) := by decide +kernel
theorem dL_grades_152 : decode cL_grades 152 = .ok (.iload 7, 2) := by decide +kernel
theorem dL_grades_154 : decode cL_grades 154 = .ok (.if_icmp .ne 18, 3) := by decide +kernel
theorem dL_grades_157 : decode cL_grades 157 = .ok (.aload_n 0, 1) := by decide +kernel
theorem dL_grades_158 : decode cL_grades 158 = .ok (.iload 5, 2) := by decide +kernel
theorem dL_grades_160 : decode cL_grades 160 = .ok (.invokevirtual 69, 3) := by decide +kernel
theorem dL_grades_163 : decode cL_grades 163 = .ok (.iload 8, 2) := by decide +kernel
theorem dL_grades_165 : decode cL_grades 165 = .ok (.if_icmp .ne 7, 3) := by decide +kernel
theorem dL_grades_168 : decode cL_grades 168 = .ok (.iconst 1, 1) := by decide +kernel
theorem dL_grades_169 : decode cL_grades 169 = .ok (.goto 82, 3) := by decide +kernel
theorem dL_grades_172 : decode cL_grades 172 = .ok (.iconst 0, 1) := by decide +kernel
theorem dL_grades_173 : decode cL_grades 173 = .ok (.goto 78, 3) := by decide +kernel
theorem dL_grades_176 : decode cL_grades 176 = .ok (.iload 8, 2) := by decide +kernel
theorem dL_grades_178 : decode cL_grades 178 = .ok (.ifCond .le 72, 3) := by decide +kernel
theorem dL_grades_181 : decode cL_grades 181 = .ok (.iload 10, 2) := by decide +kernel
theorem dL_grades_183 : decode cL_grades 183 = .ok (.iconst 1, 1) := by decide +kernel
theorem dL_grades_184 : decode cL_grades 184 = .ok (.if_icmp .lt 66, 3) := by decide +kernel
theorem dL_grades_187 : decode cL_grades 187 = .ok (.iload 10, 2) := by decide +kernel
theorem dL_grades_189 : decode cL_grades 189 = .ok (.iconst 3, 1) := by decide +kernel
theorem dL_grades_190 : decode cL_grades 190 = .ok (.if_icmp .gt 60, 3) := by decide +kernel
theorem dL_grades_193 : decode cL_grades 193 = .ok (.iload 10, 2) := by decide +kernel
theorem dL_grades_195 : decode cL_grades 195 = .ok (.iconst 1, 1) := by decide +kernel
theorem dL_grades_196 : decode cL_grades 196 = .ok (.if_icmp .gt 13, 3) := by decide +kernel
theorem dL_grades_199 : decode cL_grades 199 = .ok (.aload_n 0, 1) := by decide +kernel
theorem dL_grades_200 : decode cL_grades 200 = .ok (.iload 5, 2) := by decide +kernel
theorem dL_grades_202 : decode cL_grades 202 = .ok (.invokevirtual 69, 3) := by decide +kernel
theorem dL_grades_205 : decode cL_grades 205 = .ok (.iconst 1, 1) := by decide +kernel
theorem dL_grades_206 : decode cL_grades 206 = .ok (.if_icmp .ne 44, 3) := by decide +kernel
theorem dL_grades_209 : decode cL_grades 209 = .ok (.iload 10, 2) := by decide +kernel
theorem dL_grades_211 : decode cL_grades 211 = .ok (.iconst 3, 1) := by decide +kernel
theorem dL_grades_212 : decode cL_grades 212 = .ok (.if_icmp .lt 13, 3) := by decide +kernel
theorem dL_grades_215 : decode cL_grades 215 = .ok (.aload_n 0, 1) := by decide +kernel
theorem dL_grades_216 : decode cL_grades 216 = .ok (.iload 5, 2) := by decide +kernel
theorem dL_grades_218 : decode cL_grades 218 = .ok (.invokevirtual 66, 3) := by decide +kernel
theorem dL_grades_221 : decode cL_grades 221 = .ok (.iconst (-1), 1) := by decide +kernel
theorem dL_grades_222 : decode cL_grades 222 = .ok (.if_icmp .eq 28, 3) := by decide +kernel
theorem dL_grades_225 : decode cL_grades 225 = .ok (.aload_n 0, 1) := by decide +kernel
theorem dL_grades_226 : decode cL_grades 226 = .ok (.iload 5, 2) := by decide +kernel
theorem dL_grades_228 : decode cL_grades 228 = .ok (.invokevirtual 66, 3) := by decide +kernel
theorem dL_grades_231 : decode cL_grades 231 = .ok (.iconst (-1), 1) := by decide +kernel
theorem dL_grades_232 : decode cL_grades 232 = .ok (.if_icmp .eq 14, 3) := by decide +kernel
theorem dL_grades_235 : decode cL_grades 235 = .ok (.aload_n 0, 1) := by decide +kernel
theorem dL_grades_236 : decode cL_grades 236 = .ok (.iload 5, 2) := by decide +kernel
theorem dL_grades_238 : decode cL_grades 238 = .ok (.invokevirtual 66, 3) := by decide +kernel
theorem dL_grades_241 : decode cL_grades 241 = .ok (.bipush 20, 2) := by decide +kernel
theorem dL_grades_243 : decode cL_grades 243 = .ok (.if_icmp .gt 7, 3) := by decide +kernel
theorem dL_grades_246 : decode cL_grades 246 = .ok (.iconst 1, 1) := by decide +kernel
theorem dL_grades_247 : decode cL_grades 247 = .ok (.goto 4, 3) := by decide +kernel
theorem dL_grades_250 : decode cL_grades 250 = .ok (.iconst 0, 1) := by decide +kernel
theorem dL_grades_251 : decode cL_grades 251 = .ok (.ireturn, 1) := by decide +kernel
theorem dL_grades_252 : decode cL_grades 252 = .ok (.iload 6, 2) := by decide +kernel
theorem dL_grades_254 : decode cL_grades 254 = .ok (.bipush 8, 2) := by decide +kernel
theorem dL_grades_256 : decode cL_grades 256 = .ok (.if_icmp .ge 144, 3) := by decide +kernel
theorem dL_grades_259 : decode cL_grades 259 = .ok (.iload_n 3, 1) := by decide +kernel
theorem dL_grades_260 : decode cL_grades 260 = .ok (.iconst 4, 1) := by decide +kernel
theorem dL_grades_261 : decode cL_grades 261 = .ok (.ishr, 1) := by decide +kernel
theorem dL_grades_262 : decode cL_grades 262 = .ok (.iconst 4, 1) := by decide +kernel
theorem dL_grades_263 : decode cL_grades 263 = .ok (.invokestatic 102, 3) := by decide +kernel
theorem dL_grades_266 : decode cL_grades 266 = .ok (.ifCond .ne 134, 3) := by decide +kernel
theorem dL_grades_269 : decode cL_grades 269 = .ok (.bipush 40, 2) := by decide +kernel
theorem dL_grades_271 : decode cL_grades 271 = .ok (.newarray .int, 2) := by decide +kernel
theorem dL_grades_273 : decode cL_grades 273 = .ok (.astore 9, 2) := by decide +kernel
theorem dL_grades_275 : decode cL_grades 275 = .ok (.iconst 0, 1) := by decide +kernel
theorem dL_grades_276 : decode cL_grades 276 = .ok (.istore 10, 2) := by decide +kernel
theorem dL_grades_278 : decode cL_grades 278 = .ok (.iload 10, 2) := by decide +kernel
theorem dL_grades_280 : decode cL_grades 280 = .ok (.aload_n 2, 1) := by decide +kernel
theorem dL_grades_281 : decode cL_grades 281 = .ok (.iconst 2, 1) := by decide +kernel
theorem dL_grades_282 : decode cL_grades 282 = .ok (.iaload, 1) := by decide +kernel
theorem dL_grades_283 : decode cL_grades 283 = .ok (.if_icmp .ge 20, 3) := by decide +kernel
theorem dL_grades_286 : decode cL_grades 286 = .ok (.aload 9, 2) := by decide +kernel
theorem dL_grades_288 : decode cL_grades 288 = .ok (.iload 10, 2) := by decide +kernel
theorem dL_grades_290 : decode cL_grades 290 = .ok (.aload_n 0, 1) := by decide +kernel
theorem dL_grades_291 : decode cL_grades 291 = .ok (.iload 10, 2) := by decide +kernel
theorem dL_grades_293 : decode cL_grades 293 = .ok (.invokevirtual 66, 3) := by decide +kernel
theorem dL_grades_296 : decode cL_grades 296 = .ok (.iastore, 1) := by decide +kernel
theorem dL_grades_297 : decode cL_grades 297 = .ok (.iinc 10 1, 3) := by decide +kernel
theorem dL_grades_300 : decode cL_grades 300 = .ok (.goto (-22), 3) := by decide +kernel
theorem dL_grades_303 : decode cL_grades 303 = .ok (.aload_n 0, 1) := by decide +kernel
theorem dL_grades_304 : decode cL_grades 304 = .ok (.aload_n 1, 1) := by decide +kernel
theorem dL_grades_305 : decode cL_grades 305 = .ok (.bipush 13, 2) := by decide +kernel
theorem dL_grades_307 : decode cL_grades 307 = .ok (.iload 4, 2) := by decide +kernel
theorem dL_grades_309 : decode cL_grades 309 = .ok (.iconst 4, 1) := by decide +kernel
theorem dL_grades_310 : decode cL_grades 310 = .ok (.ishr, 1) := by decide +kernel
theorem dL_grades_311 : decode cL_grades 311 = .ok (.bipush 6, 2) := by decide +kernel
theorem dL_grades_313 : decode cL_grades 313 = .ok (.invokestatic 102, 3) := by decide +kernel
theorem dL_grades_316 : decode cL_grades 316 = .ok (.iconst 0, 1) := by decide +kernel
theorem dL_grades_317 : decode cL_grades 317 = .ok (.iconst 0, 1) := by decide +kernel
theorem dL_grades_318 : decode cL_grades 318 = .ok (.invokestatic 105, 3) := by decide +kernel
theorem dL_grades_321 : decode cL_grades 321 = .ok (.istore 10, 2) := by decide +kernel
theorem dL_grades_323 : decode cL_grades 323 = .ok (.iconst 0, 1) := by decide +kernel
theorem dL_grades_324 : decode cL_grades 324 = .ok (.istore 11, 2) := by decide +kernel
theorem dL_grades_326 : decode cL_grades 326 = .ok (.iconst 0, 1) := by decide +kernel
theorem dL_grades_327 : decode cL_grades 327 = .ok (.istore 12, 2) := by decide +kernel
theorem dL_grades_329 : decode cL_grades 329 = .ok (.iload 12, 2) := by decide +kernel
theorem dL_grades_331 : decode cL_grades 331 = .ok (.aload_n 2, 1) := by decide +kernel
theorem dL_grades_332 : decode cL_grades 332 = .ok (.iconst 2, 1) := by decide +kernel
theorem dL_grades_333 : decode cL_grades 333 = .ok (.iaload, 1) := by decide +kernel
theorem dL_grades_334 : decode cL_grades 334 = .ok (.if_icmp .ge 33, 3) := by decide +kernel
theorem dL_grades_337 : decode cL_grades 337 = .ok (.iload 11, 2) := by decide +kernel
theorem dL_grades_339 : decode cL_grades 339 = .ok (.aload_n 0, 1) := by decide +kernel
theorem dL_grades_340 : decode cL_grades 340 = .ok (.iload 12, 2) := by decide +kernel
theorem dL_grades_342 : decode cL_grades 342 = .ok (.invokevirtual 66, 3) := by decide +kernel
theorem dL_grades_345 : decode cL_grades 345 = .ok (.aload 9, 2) := by decide +kernel
theorem dL_grades_347 : decode cL_grades 347 = .ok (.iload 12, 2) := by decide +kernel
theorem dL_grades_349 : decode cL_grades 349 = .ok (.iaload, 1) := by decide +kernel
theorem dL_grades_350 : decode cL_grades 350 = .ok (.if_icmp .ne 7, 3) := by decide +kernel
theorem dL_grades_353 : decode cL_grades 353 = .ok (.iconst 0, 1) := by decide +kernel
theorem dL_grades_354 : decode cL_grades 354 = .ok (.goto 4, 3) := by decide +kernel
theorem dL_grades_357 : decode cL_grades 357 = .ok (.iconst 1, 1) := by decide +kernel
theorem dL_grades_358 : decode cL_grades 358 = .ok (.iadd, 1) := by decide +kernel
theorem dL_grades_359 : decode cL_grades 359 = .ok (.istore 11, 2) := by decide +kernel
theorem dL_grades_361 : decode cL_grades 361 = .ok (.iinc 12 1, 3) := by decide +kernel
theorem dL_grades_364 : decode cL_grades 364 = .ok (.goto (-35), 3) := by decide +kernel
theorem dL_grades_367 : decode cL_grades 367 = .ok (.iload 10, 2) := by decide +kernel
theorem dL_grades_369 : decode cL_grades 369 = .ok (.ldc 23, 2) := by decide +kernel
theorem dL_grades_371 : decode cL_grades 371 = .ok (.if_icmp .ne 16, 3) := by decide +kernel
theorem dL_grades_374 : decode cL_grades 374 = .ok (.iload 11, 2) := by decide +kernel
theorem dL_grades_376 : decode cL_grades 376 = .ok (.ifCond .ne 7, 3) := by decide +kernel
theorem dL_grades_379 : decode cL_grades 379 = .ok (.iconst 1, 1) := by decide +kernel
theorem dL_grades_380 : decode cL_grades 380 = .ok (.goto 19, 3) := by decide +kernel
theorem dL_grades_383 : decode cL_grades 383 = .ok (.iconst 0, 1) := by decide +kernel
theorem dL_grades_384 : decode cL_grades 384 = .ok (.goto 15, 3) := by decide +kernel
theorem dL_grades_387 : decode cL_grades 387 = .ok (.iload 10, 2) := by decide +kernel
theorem dL_grades_389 : decode cL_grades 389 = .ok (.iload 11, 2) := by decide +kernel
theorem dL_grades_391 : decode cL_grades 391 = .ok (.if_icmp .ne 7, 3) := by decide +kernel
theorem dL_grades_394 : decode cL_grades 394 = .ok (.iconst 1, 1) := by decide +kernel
theorem dL_grades_395 : decode cL_grades 395 = .ok (.goto 4, 3) := by decide +kernel
theorem dL_grades_398 : decode cL_grades 398 = .ok (.iconst 0, 1) := by decide +kernel
theorem dL_grades_399 : decode cL_grades 399 = .ok (.ireturn, 1) := by decide +kernel
theorem dL_grades_400 : decode cL_grades 400 = .ok (.iload 6, 2) := by decide +kernel
theorem dL_grades_402 : decode cL_grades 402 = .ok (.bipush 11, 2) := by decide +kernel
theorem dL_grades_404 : decode cL_grades 404 = .ok (.if_icmp .ge 84, 3) := by decide +kernel
theorem dL_grades_407 : decode cL_grades 407 = .ok (.aload_n 0, 1) := by decide +kernel
theorem dL_grades_408 : decode cL_grades 408 = .ok (.aload_n 1, 1) := by decide +kernel
theorem dL_grades_409 : decode cL_grades 409 = .ok (.bipush 14, 2) := by decide +kernel
theorem dL_grades_411 : decode cL_grades 411 = .ok (.iload 5, 2) := by decide +kernel
theorem dL_grades_413 : decode cL_grades 413 = .ok (.iconst 0, 1) := by decide +kernel
theorem dL_grades_414 : decode cL_grades 414 = .ok (.iconst 0, 1) := by decide +kernel
theorem dL_grades_415 : decode cL_grades 415 = .ok (.invokestatic 105, 3) := by decide +kernel
theorem dL_grades_418 : decode cL_grades 418 = .ok (.istore 9, 2) := by decide +kernel
theorem dL_grades_420 : decode cL_grades 420 = .ok (.iload 9, 2) := by decide +kernel
theorem dL_grades_422 : decode cL_grades 422 = .ok (.ldc 23, 2) := by decide +kernel
theorem dL_grades_424 : decode cL_grades 424 = .ok (.if_icmp .ne 7, 3) := by decide +kernel
theorem dL_grades_427 : decode cL_grades 427 = .ok (.iconst 1, 1) := by decide +kernel
theorem dL_grades_428 : decode cL_grades 428 = .ok (.goto 59, 3) := by decide +kernel
theorem dL_grades_431 : decode cL_grades 431 = .ok (.iload 9, 2) := by decide +kernel
theorem dL_grades_433 : decode cL_grades 433 = .ok (.iconst 1, 1) := by decide +kernel
theorem dL_grades_434 : decode cL_grades 434 = .ok (.if_icmp .lt 52, 3) := by decide +kernel
theorem dL_grades_437 : decode cL_grades 437 = .ok (.iload 9, 2) := by decide +kernel
theorem dL_grades_439 : decode cL_grades 439 = .ok (.aload_n 2, 1) := by decide +kernel
theorem dL_grades_440 : decode cL_grades 440 = .ok (.iconst 2, 1) := by decide +kernel
theorem dL_grades_441 : decode cL_grades 441 = .ok (.iaload, 1) := by decide +kernel
theorem dL_grades_442 : decode cL_grades 442 = .ok (.if_icmp .gt 44, 3) := by decide +kernel
theorem dL_grades_445 : decode cL_grades 445 = .ok (.iload 7, 2) := by decide +kernel
theorem dL_grades_447 : decode cL_grades 447 = .ok (.iconst (-1), 1) := by decide +kernel
theorem dL_grades_448 : decode cL_grades 448 = .ok (.if_icmp .eq 38, 3) := by decide +kernel
theorem dL_grades_451 : decode cL_grades 451 = .ok (.aload_n 0, 1) := by decide +kernel
theorem dL_grades_452 : decode cL_grades 452 = .ok (.iload 5, 2) := by decide +kernel
theorem dL_grades_454 : decode cL_grades 454 = .ok (.invokevirtual 81, 3) := by decide +kernel
theorem dL_grades_457 : decode cL_grades 457 = .ok (.iconst 3, 1) := by decide +kernel
theorem dL_grades_458 : decode cL_grades 458 = .ok (.iload 7, 2) := by decide +kernel
theorem dL_grades_460 : decode cL_grades 460 = .ok (.imul, 1) := by decide +kernel
theorem dL_grades_461 : decode cL_grades 461 = .ok (.aload_n 0, 1) := by decide +kernel
theorem dL_grades_462 : decode cL_grades 462 = .ok (.iload 5, 2) := by decide +kernel
theorem dL_grades_464 : decode cL_grades 464 = .ok (.iconst 5, 1) := by decide +kernel
theorem dL_grades_465 : decode cL_grades 465 = .ok (.invokevirtual 55, 3) := by decide +kernel
theorem dL_grades_468 : decode cL_grades 468 = .ok (.isub, 1) := by decide +kernel
theorem dL_grades_469 : decode cL_grades 469 = .ok (.if_icmp .ne 17, 3) := by decide +kernel
theorem dL_grades_472 : decode cL_grades 472 = .ok (.aload_n 0, 1) := by decide +kernel
theorem dL_grades_473 : decode cL_grades 473 = .ok (.iload 5, 2) := by decide +kernel
theorem dL_grades_475 : decode cL_grades 475 = .ok (.invokevirtual 84, 3) := by decide +kernel
theorem dL_grades_478 : decode cL_grades 478 = .ok (.iconst 1, 1) := by decide +kernel
theorem dL_grades_479 : decode cL_grades 479 = .ok (.if_icmp .lt 7, 3) := by decide +kernel
theorem dL_grades_482 : decode cL_grades 482 = .ok (.iconst 1, 1) := by decide +kernel
theorem dL_grades_483 : decode cL_grades 483 = .ok (.goto 4, 3) := by decide +kernel
theorem dL_grades_486 : decode cL_grades 486 = .ok (.iconst 0, 1) := by decide +kernel
theorem dL_grades_487 : decode cL_grades 487 = .ok (.ireturn, 1) := by decide +kernel
theorem dL_grades_488 : decode cL_grades 488 = .ok (.iload 4, 2) := by decide +kernel
theorem dL_grades_490 : decode cL_grades 490 = .ok (.iconst 4, 1) := by decide +kernel
theorem dL_grades_491 : decode cL_grades 491 = .ok (.ishr, 1) := by decide +kernel
theorem dL_grades_492 : decode cL_grades 492 = .ok (.iconst 4, 1) := by decide +kernel
theorem dL_grades_493 : decode cL_grades 493 = .ok (.invokestatic 102, 3) := by decide +kernel
theorem dL_grades_496 : decode cL_grades 496 = .ok (.istore 9, 2) := by decide +kernel
theorem dL_grades_498 : decode cL_grades 498 = .ok (.iload 4, 2) := by decide +kernel
theorem dL_grades_500 : decode cL_grades 500 = .ok (.bipush 7, 2) := by decide +kernel
theorem dL_grades_502 : decode cL_grades 502 = .ok (.ishr, 1) := by decide +kernel
theorem dL_grades_503 : decode cL_grades 503 = .ok (.bipush 6, 2) := by decide +kernel
theorem dL_grades_505 : decode cL_grades 505 = .ok (.invokestatic 102, 3) := by decide +kernel
theorem dL_grades_508 : decode cL_grades 508 = .ok (.istore 10, 2) := by decide +kernel
theorem dL_grades_510 : decode cL_grades 510 = .ok (.aload_n 0, 1) := by decide +kernel
theorem dL_grades_511 : decode cL_grades 511 = .ok (.iload 5, 2) := by decide +kernel
theorem dL_grades_513 : decode cL_grades 513 = .ok (.invokevirtual 81, 3) := by decide +kernel
theorem dL_grades_516 : decode cL_grades 516 = .ok (.istore 11, 2) := by decide +kernel
theorem dL_grades_518 : decode cL_grades 518 = .ok (.aload_n 0, 1) := by decide +kernel
theorem dL_grades_519 : decode cL_grades 519 = .ok (.aload_n 1, 1) := by decide +kernel
theorem dL_grades_520 : decode cL_grades 520 = .ok (.bipush 15, 2) := by decide +kernel
theorem dL_grades_522 : decode cL_grades 522 = .ok (.iload 9, 2) := by decide +kernel
theorem dL_grades_524 : decode cL_grades 524 = .ok (.iload 5, 2) := by decide +kernel
theorem dL_grades_526 : decode cL_grades 526 = .ok (.iload 10, 2) := by decide +kernel
theorem dL_grades_528 : decode cL_grades 528 = .ok (.invokestatic 105, 3) := by decide +kernel
theorem dL_grades_531 : decode cL_grades 531 = .ok (.istore 12, 2) := by decide +kernel
theorem dL_grades_533 : decode cL_grades 533 = .ok (.iload 12, 2) := by decide +kernel
theorem dL_grades_535 : decode cL_grades 535 = .ok (.ldc 23, 2) := by decide +kernel
theorem dL_grades_537 : decode cL_grades 537 = .ok (.if_icmp .ne 22, 3) := by decide +kernel
theorem dL_grades_540 : decode cL_grades 540 = .ok (.aload_n 0, 1) := by decide +kernel
theorem dL_grades_541 : decode cL_grades 541 = .ok (.iload 5, 2) := by decide +kernel
theorem dL_grades_543 : decode cL_grades 543 = .ok (.invokevirtual 81, 3) := by decide +kernel
theorem dL_grades_546 : decode cL_grades 546 = .ok (.iload 11, 2) := by decide +kernel
theorem dL_grades_548 : decode cL_grades 548 = .ok (.if_icmp .ne 7, 3) := by decide +kernel
theorem dL_grades_551 : decode cL_grades 551 = .ok (.iconst 1, 1) := by decide +kernel
theorem dL_grades_552 : decode cL_grades 552 = .ok (.goto 91, 3) := by decide +kernel
theorem dL_grades_555 : decode cL_grades 555 = .ok (.iconst 0, 1) := by decide +kernel
theorem dL_grades_556 : decode cL_grades 556 = .ok (.goto 87, 3) := by decide +kernel
theorem dL_grades_559 : decode cL_grades 559 = .ok (.iload 12, 2) := by decide +kernel
theorem dL_grades_561 : decode cL_grades 561 = .ok (.iload 10, 2) := by decide +kernel
theorem dL_grades_563 : decode cL_grades 563 = .ok (.if_icmp .lt 79, 3) := by decide +kernel
theorem dL_grades_566 : decode cL_grades 566 = .ok (.iload 12, 2) := by decide +kernel
theorem dL_grades_568 : decode cL_grades 568 = .ok (.bipush 15, 2) := by decide +kernel
theorem dL_grades_570 : decode cL_grades 570 = .ok (.if_icmp .gt 72, 3) := by decide +kernel
theorem dL_grades_573 : decode cL_grades 573 = .ok (.aload_n 2, 1) := by decide +kernel
theorem dL_grades_574 : decode cL_grades 574 = .ok (.iconst 4, 1) := by decide +kernel
theorem dL_grades_575 : decode cL_grades 575 = .ok (.aload_n 2, 1) := by decide +kernel
theorem dL_grades_576 : decode cL_grades 576 = .ok (.bipush 24, 2) := by decide +kernel
theorem dL_grades_578 : decode cL_grades 578 = .ok (.iload 5, 2) := by decide +kernel
theorem dL_grades_580 : decode cL_grades 580 = .ok (.iadd, 1) := by decide +kernel
theorem dL_grades_581 : decode cL_grades 581 = .ok (.iaload, 1) := by decide +kernel
theorem dL_grades_582 : decode cL_grades 582 = .ok (.iadd, 1) := by decide +kernel
theorem dL_grades_583 : decode cL_grades 583 = .ok (.iaload, 1) := by decide +kernel
theorem dL_grades_584 : decode cL_grades 584 = .ok (.iload 9, 2) := by decide +kernel
theorem dL_grades_586 : decode cL_grades 586 = .ok (.if_icmp .eq 56, 3) := by decide +kernel
theorem dL_grades_589 : decode cL_grades 589 = .ok (.iload 11, 2) := by decide +kernel
theorem dL_grades_591 : decode cL_grades 591 = .ok (.sipush (-9999), 3) := by decide +kernel
theorem dL_grades_594 : decode cL_grades 594 = .ok (.if_icmp .ne 18, 3) := by decide +kernel
theorem dL_grades_597 : decode cL_grades 597 = .ok (.aload_n 0, 1) := by decide +kernel
theorem dL_grades_598 : decode cL_grades 598 = .ok (.iload 5, 2) := by decide +kernel
theorem dL_grades_600 : decode cL_grades 600 = .ok (.invokevirtual 81, 3) := by decide +kernel
theorem dL_grades_603 : decode cL_grades 603 = .ok (.sipush (-9999), 3) := by decide +kernel
theorem dL_grades_606 : decode cL_grades 606 = .ok (.if_icmp .ne 36, 3) := by decide +kernel
theorem dL_grades_609 : decode cL_grades 609 = .ok (.goto 29, 3) := by decide +kernel
theorem dL_grades_612 : decode cL_grades 612 = .ok (.aload_n 0, 1) := by decide +kernel
theorem dL_grades_613 : decode cL_grades 613 = .ok (.iload 5, 2) := by decide +kernel
theorem dL_grades_615 : decode cL_grades 615 = .ok (.invokevirtual 81, 3) := by decide +kernel
theorem dL_grades_618 : decode cL_grades 618 = .ok (.iconst 3, 1) := by decide +kernel
theorem dL_grades_619 : decode cL_grades 619 = .ok (.iload 7, 2) := by decide +kernel
theorem dL_grades_621 : decode cL_grades 621 = .ok (.imul, 1) := by decide +kernel
theorem dL_grades_622 : decode cL_grades 622 = .ok (.iconst 2, 1) := by decide +kernel
theorem dL_grades_623 : decode cL_grades 623 = .ok (.iload 12, 2) := by decide +kernel
theorem dL_grades_625 : decode cL_grades 625 = .ok (.imul, 1) := by decide +kernel
theorem dL_grades_626 : decode cL_grades 626 = .ok (.iadd, 1) := by decide +kernel
theorem dL_grades_627 : decode cL_grades 627 = .ok (.aload_n 0, 1) := by decide +kernel
theorem dL_grades_628 : decode cL_grades 628 = .ok (.iload 5, 2) := by decide +kernel
theorem dL_grades_630 : decode cL_grades 630 = .ok (.iconst 5, 1) := by decide +kernel
theorem dL_grades_631 : decode cL_grades 631 = .ok (.invokevirtual 55, 3) := by decide +kernel
theorem dL_grades_634 : decode cL_grades 634 = .ok (.isub, 1) := by decide +kernel
theorem dL_grades_635 : decode cL_grades 635 = .ok (.if_icmp .ne 7, 3) := by decide +kernel
theorem dL_grades_638 : decode cL_grades 638 = .ok (.iconst 1, 1) := by decide +kernel
theorem dL_grades_639 : decode cL_grades 639 = .ok (.goto 4, 3) := by decide +kernel
theorem dL_grades_642 : decode cL_grades 642 = .ok (.iconst 0, 1) := by decide +kernel
theorem dL_grades_643 : decode cL_grades 643 = .ok (.ireturn, 1) := by decide +kernel
