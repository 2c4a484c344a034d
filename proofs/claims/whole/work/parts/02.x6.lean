theorem dX6_init_0 : decode cX6_init 0 = .ok (.aload_n 0, 1) := by decide +kernel
theorem dX6_init_1 : decode cX6_init 1 = .ok (.invokespecial 1, 3) := by decide +kernel
theorem dX6_init_4 : decode cX6_init 4 = .ok (.aload_n 0, 1) := by decide +kernel
theorem dX6_init_5 : decode cX6_init 5 = .ok (.bipush 8, 2) := by decide +kernel
theorem dX6_init_7 : decode cX6_init 7 = .ok (.newarray .int, 2) := by decide +kernel
theorem dX6_init_9 : decode cX6_init 9 = .ok (.putfield 7, 3) := by decide +kernel
theorem dX6_init_12 : decode cX6_init 12 = .ok (.aload_n 0, 1) := by decide +kernel
theorem dX6_init_13 : decode cX6_init 13 = .ok (.bipush 60, 2) := by decide +kernel
theorem dX6_init_15 : decode cX6_init 15 = .ok (.newarray .int, 2) := by decide +kernel
theorem dX6_init_17 : decode cX6_init 17 = .ok (.putfield 13, 3) := by decide +kernel
theorem dX6_init_20 : decode cX6_init 20 = .ok (.aload_n 0, 1) := by decide +kernel
theorem dX6_init_21 : decode cX6_init 21 = .ok (.bipush 10, 2) := by decide +kernel
theorem dX6_init_23 : decode cX6_init 23 = .ok (.newarray .int, 2) := by decide +kernel
theorem dX6_init_25 : decode cX6_init 25 = .ok (.putfield 16, 3) := by decide +kernel
theorem dX6_init_28 : decode cX6_init 28 = .ok (.aload_n 0, 1) := by decide +kernel
theorem dX6_init_29 : decode cX6_init 29 = .ok (.bipush 20, 2) := by decide +kernel
theorem dX6_init_31 : decode cX6_init 31 = .ok (.newarray .int, 2) := by decide +kernel
theorem dX6_init_33 : decode cX6_init 33 = .ok (.putfield 19, 3) := by decide +kernel
theorem dX6_init_36 : decode cX6_init 36 = .ok (.aload_n 0, 1) := by decide +kernel
theorem dX6_init_37 : decode cX6_init 37 = .ok (.bipush 20, 2) := by decide +kernel
theorem dX6_init_39 : decode cX6_init 39 = .ok (.newarray .int, 2) := by decide +kernel
theorem dX6_init_41 : decode cX6_init 41 = .ok (.putfield 22, 3) := by decide +kernel
theorem dX6_init_44 : decode cX6_init 44 = .ok (.aload_n 0, 1) := by decide +kernel
theorem dX6_init_45 : decode cX6_init 45 = .ok (.bipush 20, 2) := by decide +kernel
theorem dX6_init_47 : decode cX6_init 47 = .ok (.newarray .boolean, 2) := by decide +kernel
theorem dX6_init_49 : decode cX6_init 49 = .ok (.putfield 25, 3) := by decide +kernel
theorem dX6_init_52 : decode cX6_init 52 = .ok (.aload_n 0, 1) := by decide +kernel
theorem dX6_init_53 : decode cX6_init 53 = .ok (.bipush 6, 2) := by decide +kernel
theorem dX6_init_55 : decode cX6_init 55 = .ok (.newarray .int, 2) := by decide +kernel
theorem dX6_init_57 : decode cX6_init 57 = .ok (.putfield 29, 3) := by decide +kernel
theorem dX6_init_60 : decode cX6_init 60 = .ok (.aload_n 0, 1) := by decide +kernel
theorem dX6_init_61 : decode cX6_init 61 = .ok (.sipush 320, 3) := by decide +kernel
theorem dX6_init_64 : decode cX6_init 64 = .ok (.newarray .int, 2) := by decide +kernel
theorem dX6_init_66 : decode cX6_init 66 = .ok (.putfield 32, 3) := by decide +kernel
theorem dX6_init_69 : decode cX6_init 69 = .ok (.aload_n 0, 1) := by decide +kernel
theorem dX6_init_70 : decode cX6_init 70 = .ok (.bipush 40, 2) := by decide +kernel
theorem dX6_init_72 : decode cX6_init 72 = .ok (.newarray .int, 2) := by decide +kernel
theorem dX6_init_74 : decode cX6_init 74 = .ok (.putfield 35, 3) := by decide +kernel
theorem dX6_init_77 : decode cX6_init 77 = .ok (.aload_n 0, 1) := by decide +kernel
theorem dX6_init_78 : decode cX6_init 78 = .ok (.bipush 40, 2) := by decide +kernel
theorem dX6_init_80 : decode cX6_init 80 = .ok (.newarray .int, 2) := by decide +kernel
theorem dX6_init_82 : decode cX6_init 82 = .ok (.putfield 38, 3) := by decide +kernel
theorem dX6_init_85 : decode cX6_init 85 = .ok (.aload_n 0, 1) := by decide +kernel
theorem dX6_init_86 : decode cX6_init 86 = .ok (.bipush 40, 2) := by decide +kernel
theorem dX6_init_88 : decode cX6_init 88 = .ok (.newarray .int, 2) := by decide +kernel
theorem dX6_init_90 : decode cX6_init 90 = .ok (.putfield 41, 3) := by decide +kernel
theorem dX6_init_93 : decode cX6_init 93 = .ok (.aload_n 0, 1) := by decide +kernel
theorem dX6_init_94 : decode cX6_init 94 = .ok (.bipush 40, 2) := by decide +kernel
theorem dX6_init_96 : decode cX6_init 96 = .ok (.newarray .boolean, 2) := by decide +kernel
theorem dX6_init_98 : decode cX6_init 98 = .ok (.putfield 44, 3) := by decide +kernel
theorem dX6_init_101 : decode cX6_init 101 = .ok (.aload_n 0, 1) := by decide +kernel
theorem dX6_init_102 : decode cX6_init 102 = .ok (.bipush 120, 2) := by decide +kernel
theorem dX6_init_104 : decode cX6_init 104 = .ok (.newarray .int, 2) := by decide +kernel
theorem dX6_init_106 : decode cX6_init 106 = .ok (.putfield 47, 3) := by decide +kernel
theorem dX6_init_109 : decode cX6_init 109 = .ok (.aload_n 0, 1) := by decide +kernel
theorem dX6_init_110 : decode cX6_init 110 = .ok (.bipush 120, 2) := by decide +kernel
theorem dX6_init_112 : decode cX6_init 112 = .ok (.newarray .int, 2) := by decide +kernel
theorem dX6_init_114 : decode cX6_init 114 = .ok (.putfield 50, 3) := by decide +kernel
theorem dX6_init_117 : decode cX6_init 117 = .ok (.aload_n 0, 1) := by decide +kernel
theorem dX6_init_118 : decode cX6_init 118 = .ok (.bipush 40, 2) := by decide +kernel
theorem dX6_init_120 : decode cX6_init 120 = .ok (.newarray .int, 2) := by decide +kernel
theorem dX6_init_122 : decode cX6_init 122 = .ok (.putfield 53, 3) := by decide +kernel
theorem dX6_init_125 : decode cX6_init 125 = .ok (.aload_n 0, 1) := by decide +kernel
theorem dX6_init_126 : decode cX6_init 126 = .ok (.bipush 6, 2) := by decide +kernel
theorem dX6_init_128 : decode cX6_init 128 = .ok (.newarray .boolean, 2) := by decide +kernel
theorem dX6_init_130 : decode cX6_init 130 = .ok (.putfield 56, 3) := by decide +kernel
theorem dX6_init_133 : decode cX6_init 133 = .ok (.aload_n 0, 1) := by decide +kernel
theorem dX6_init_134 : decode cX6_init 134 = .ok (.bipush 40, 2) := by decide +kernel
theorem dX6_init_136 : decode cX6_init 136 = .ok (.newarray .boolean, 2) := by decide +kernel
theorem dX6_init_138 : decode cX6_init 138 = .ok (.putfield 59, 3) := by decide +kernel
theorem dX6_init_141 : decode cX6_init 141 = .ok (.aload_n 0, 1) := by decide +kernel
theorem dX6_init_142 : decode cX6_init 142 = .ok (.sipush 160, 3) := by decide +kernel
theorem dX6_init_145 : decode cX6_init 145 = .ok (.newarray .int, 2) := by decide +kernel
theorem dX6_init_147 : decode cX6_init 147 = .ok (.putfield 62, 3) := by decide +kernel
theorem dX6_init_150 : decode cX6_init 150 = .ok (.aload_n 0, 1) := by decide +kernel
theorem dX6_init_151 : decode cX6_init 151 = .ok (.bipush 8, 2) := by decide +kernel
theorem dX6_init_153 : decode cX6_init 153 = .ok (.newarray .int, 2) := by decide +kernel
theorem dX6_init_155 : decode cX6_init 155 = .ok (.putfield 65, 3) := by decide +kernel
theorem dX6_init_158 : decode cX6_init 158 = .ok (.aload_n 0, 1) := by decide +kernel
theorem dX6_init_159 : decode cX6_init 159 = .ok (.iconst 0, 1) := by decide +kernel
theorem dX6_init_160 : decode cX6_init 160 = .ok (.putfield 68, 3) := by decide +kernel
theorem dX6_init_163 : decode cX6_init 163 = .ok (.return_, 1) := by decide +kernel
theorem dX6_thrown_0 : decode cX6_thrown 0 = .ok (.aload_n 0, 1) := by decide +kernel
theorem dX6_thrown_1 : decode cX6_thrown 1 = .ok (.getfield 72, 3) := by decide +kernel
theorem dX6_thrown_4 : decode cX6_thrown 4 = .ok (.ireturn, 1) := by decide +kernel
theorem dX6_fails_0 : decode cX6_fails 0 = .ok (.aload_n 0, 1) := by decide +kernel
theorem dX6_fails_1 : decode cX6_fails 1 = .ok (.iload_n 1, 1) := by decide +kernel
theorem dX6_fails_2 : decode cX6_fails 2 = .ok (.putfield 72, 3) := by decide +kernel
theorem dX6_fails_5 : decode cX6_fails 5 = .ok (.iconst 0, 1) := by decide +kernel
theorem dX6_fails_6 : decode cX6_fails 6 = .ok (.ireturn, 1) := by decide +kernel
theorem dX6_asks_0 : decode cX6_asks 0 = .ok (.aload_n 0, 1) := by decide +kernel
theorem dX6_asks_1 : decode cX6_asks 1 = .ok (.iload_n 1, 1) := by decide +kernel
theorem dX6_asks_2 : decode cX6_asks 2 = .ok (.ifCond .eq 7, 3) := by decide +kernel
theorem dX6_asks_5 : decode cX6_asks 5 = .ok (.iconst 0, 1) := by decide +kernel
theorem dX6_asks_6 : decode cX6_asks 6 = .ok (.goto 4, 3) := by decide +kernel
theorem dX6_asks_9 : decode cX6_asks 9 = .ok (.iconst 1, 1) := by decide +kernel
theorem dX6_asks_10 : decode cX6_asks 10 = .ok (.putfield 72, 3) := by decide +kernel
theorem dX6_asks_13 : decode cX6_asks 13 = .ok (.iload_n 1, 1) := by decide +kernel
theorem dX6_asks_14 : decode cX6_asks 14 = .ok (.ireturn, 1) := by decide +kernel
theorem dX6_in_0 : decode cX6_in 0 = .ok (.iload_n 0, 1) := by decide +kernel
theorem dX6_in_1 : decode cX6_in 1 = .ok (.iload_n 1, 1) := by decide +kernel
theorem dX6_in_2 : decode cX6_in 2 = .ok (.if_icmp .lt 12, 3) := by decide +kernel
theorem dX6_in_5 : decode cX6_in 5 = .ok (.iload_n 0, 1) := by decide +kernel
theorem dX6_in_6 : decode cX6_in 6 = .ok (.iload_n 2, 1) := by decide +kernel
theorem dX6_in_7 : decode cX6_in 7 = .ok (.if_icmp .gt 7, 3) := by decide +kernel
theorem dX6_in_10 : decode cX6_in 10 = .ok (.iconst 1, 1) := by decide +kernel
theorem dX6_in_11 : decode cX6_in 11 = .ok (.goto 4, 3) := by decide +kernel
theorem dX6_in_14 : decode cX6_in 14 = .ok (.iconst 0, 1) := by decide +kernel
theorem dX6_in_15 : decode cX6_in 15 = .ok (.ireturn, 1) := by decide +kernel
set_option maxRecDepth 20000 in
theorem ggX6_isScript_X6_in : GoodIn wsX6_isScript wsX6_in := goodIn_r _ [5] (by decide +kernel) (by decide +kernel)
set_option maxRecDepth 20000 in
theorem gX6_isScript_X6_in : GoodIn wsX6_isScript (va_wsS RX6 78 yX6_in wsX6_in) := goodIn_app (goodIn_of _ (by decide +kernel)) ggX6_isScript_X6_in
theorem dX6_isScript_0 : decode cX6_isScript 0 = .ok (.iload_n 1, 1) := by decide +kernel
theorem dX6_isScript_1 : decode cX6_isScript 1 = .ok (.iconst 0, 1) := by decide +kernel
theorem dX6_isScript_2 : decode cX6_isScript 2 = .ok (.aload_n 0, 1) := by decide +kernel
theorem dX6_isScript_3 : decode cX6_isScript 3 = .ok (.getfield 75, 3) := by decide +kernel
theorem dX6_isScript_6 : decode cX6_isScript 6 = .ok (.iconst 1, 1) := by decide +kernel
theorem dX6_isScript_7 : decode cX6_isScript 7 = .ok (.isub, 1) := by decide +kernel
theorem dX6_isScript_8 : decode cX6_isScript 8 = .ok (.invokestatic 78, 3) := by decide +kernel
theorem dX6_isScript_11 : decode cX6_isScript 11 = .ok (.ireturn, 1) := by decide +kernel
theorem dX6_areOneLine_0 : decode cX6_areOneLine 0 = .ok (.iload_n 0, 1) := by decide +kernel
theorem dX6_areOneLine_1 : decode cX6_areOneLine 1 = .ok (.iload_n 1, 1) := by decide +kernel
theorem dX6_areOneLine_2 : decode cX6_areOneLine 2 = .ok (.if_icmp .eq 25, 3) := by decide +kernel
theorem dX6_areOneLine_5 : decode cX6_areOneLine 5 = .ok (.iload_n 0, 1) := by decide +kernel
theorem dX6_areOneLine_6 : decode cX6_areOneLine 6 = .ok (.bipush 10, 2) := by decide +kernel
theorem dX6_areOneLine_8 : decode cX6_areOneLine 8 = .ok (.idiv, 1) := by decide +kernel
theorem dX6_areOneLine_9 : decode cX6_areOneLine 9 = .ok (.iload_n 1, 1) := by decide +kernel
theorem dX6_areOneLine_10 : decode cX6_areOneLine 10 = .ok (.bipush 10, 2) := by decide +kernel
theorem dX6_areOneLine_12 : decode cX6_areOneLine 12 = .ok (.irem, 1) := by decide +kernel
theorem dX6_areOneLine_13 : decode cX6_areOneLine 13 = .ok (.if_icmp .ne 18, 3) := by decide +kernel
theorem dX6_areOneLine_16 : decode cX6_areOneLine 16 = .ok (.iload_n 0, 1) := by decide +kernel
theorem dX6_areOneLine_17 : decode cX6_areOneLine 17 = .ok (.bipush 10, 2) := by decide +kernel
theorem dX6_areOneLine_19 : decode cX6_areOneLine 19 = .ok (.irem, 1) := by decide +kernel
theorem dX6_areOneLine_20 : decode cX6_areOneLine 20 = .ok (.iload_n 1, 1) := by decide +kernel
theorem dX6_areOneLine_21 : decode cX6_areOneLine 21 = .ok (.bipush 10, 2) := by decide +kernel
theorem dX6_areOneLine_23 : decode cX6_areOneLine 23 = .ok (.idiv, 1) := by decide +kernel
theorem dX6_areOneLine_24 : decode cX6_areOneLine 24 = .ok (.if_icmp .ne 7, 3) := by decide +kernel
theorem dX6_areOneLine_27 : decode cX6_areOneLine 27 = .ok (.iconst 1, 1) := by decide +kernel
theorem dX6_areOneLine_28 : decode cX6_areOneLine 28 = .ok (.goto 4, 3) := by decide +kernel
theorem dX6_areOneLine_31 : decode cX6_areOneLine 31 = .ok (.iconst 0, 1) := by decide +kernel
theorem dX6_areOneLine_32 : decode cX6_areOneLine 32 = .ok (.ireturn, 1) := by decide +kernel
set_option maxRecDepth 20000 in
theorem ggX6_stroke_X6_in : GoodIn wsX6_stroke wsX6_in := goodIn_r _ [6] (by decide +kernel) (by decide +kernel)
set_option maxRecDepth 20000 in
theorem gX6_stroke_X6_in : GoodIn wsX6_stroke (va_wsS RX6 78 yX6_in wsX6_in) := goodIn_app (goodIn_of _ (by decide +kernel)) ggX6_stroke_X6_in
set_option maxRecDepth 20000 in
theorem ggX6_stroke_X6_asks : GoodIn wsX6_stroke wsX6_asks := goodIn_r _ [10, 11, 16, 17, 18, 19, 20, 21, 22, 23, 24, 25, 26, 27, 28, 29, 30, 31, 32, 33, 34, 35, 36, 37, 38, 39] (by decide +kernel) (by decide +kernel)
set_option maxRecDepth 20000 in
theorem gX6_stroke_X6_asks : GoodIn wsX6_stroke (wsV RX6 82 RX6 yX6_asks wsX6_asks) := goodIn_app (goodIn_of _ (by decide +kernel)) ggX6_stroke_X6_asks
set_option maxRecDepth 20000 in
theorem ggX6_stroke_X6_fails : GoodIn wsX6_stroke wsX6_fails := goodIn_r _ [15, 11, 16, 17, 18, 19, 20, 21, 22, 23, 24, 25, 26, 27, 28, 29, 30, 31, 32, 33, 34, 35, 36, 37, 38, 39] (by decide +kernel) (by decide +kernel)
set_option maxRecDepth 20000 in
theorem gX6_stroke_X6_fails : GoodIn wsX6_stroke (wsV RX6 86 RX6 yX6_fails wsX6_fails) := goodIn_app (goodIn_of _ (by decide +kernel)) ggX6_stroke_X6_fails
theorem dX6_stroke_0 : decode cX6_stroke 0 = .ok (.aload_n 0, 1) := by decide +kernel
theorem dX6_stroke_1 : decode cX6_stroke 1 = .ok (.iload_n 1, 1) := by decide +kernel
theorem dX6_stroke_2 : decode cX6_stroke 2 = .ok (.iconst 0, 1) := by decide +kernel
theorem dX6_stroke_3 : decode cX6_stroke 3 = .ok (.bipush 8, 2) := by decide +kernel
theorem dX6_stroke_5 : decode cX6_stroke 5 = .ok (.invokestatic 78, 3) := by decide +kernel
theorem dX6_stroke_8 : decode cX6_stroke 8 = .ok (.ifCond .eq 17, 3) := by decide +kernel
theorem dX6_stroke_11 : decode cX6_stroke 11 = .ok (.iload_n 2, 1) := by decide +kernel
theorem dX6_stroke_12 : decode cX6_stroke 12 = .ok (.iconst 0, 1) := by decide +kernel
theorem dX6_stroke_13 : decode cX6_stroke 13 = .ok (.bipush 8, 2) := by decide +kernel
theorem dX6_stroke_15 : decode cX6_stroke 15 = .ok (.invokestatic 78, 3) := by decide +kernel
theorem dX6_stroke_18 : decode cX6_stroke 18 = .ok (.ifCond .eq 7, 3) := by decide +kernel
theorem dX6_stroke_21 : decode cX6_stroke 21 = .ok (.iconst 1, 1) := by decide +kernel
theorem dX6_stroke_22 : decode cX6_stroke 22 = .ok (.goto 4, 3) := by decide +kernel
theorem dX6_stroke_25 : decode cX6_stroke 25 = .ok (.iconst 0, 1) := by decide +kernel
theorem dX6_stroke_26 : decode cX6_stroke 26 = .ok (.invokevirtual 82, 3) := by decide +kernel
theorem dX6_stroke_29 : decode cX6_stroke 29 = .ok (.ifCond .ne 5, 3) := by decide +kernel
theorem dX6_stroke_32 : decode cX6_stroke 32 = .ok (.iconst 0, 1) := by decide +kernel
theorem dX6_stroke_33 : decode cX6_stroke 33 = .ok (.ireturn, 1) := by decide +kernel
theorem dX6_stroke_34 : decode cX6_stroke 34 = .ok (.iload_n 1, 1) := by decide +kernel
theorem dX6_stroke_35 : decode cX6_stroke 35 = .ok (.iload_n 2, 1) := by decide +kernel
theorem dX6_stroke_36 : decode cX6_stroke 36 = .ok (.if_icmp .ne 9, 3) := by decide +kernel
theorem dX6_stroke_39 : decode cX6_stroke 39 = .ok (.aload_n 0, 1) := by decide +kernel
theorem dX6_stroke_40 : decode cX6_stroke 40 = .ok (.iconst 2, 1) := by decide +kernel
theorem dX6_stroke_41 : decode cX6_stroke 41 = .ok (.invokevirtual 86, 3) := by decide +kernel
theorem dX6_stroke_44 : decode cX6_stroke 44 = .ok (.ireturn, 1) := by decide +kernel
theorem dX6_stroke_45 : decode cX6_stroke 45 = .ok (.aload_n 0, 1) := by decide +kernel
theorem dX6_stroke_46 : decode cX6_stroke 46 = .ok (.getfield 68, 3) := by decide +kernel
theorem dX6_stroke_49 : decode cX6_stroke 49 = .ok (.bipush 8, 2) := by decide +kernel
theorem dX6_stroke_51 : decode cX6_stroke 51 = .ok (.if_icmp .ne 9, 3) := by decide +kernel
theorem dX6_stroke_54 : decode cX6_stroke 54 = .ok (.aload_n 0, 1) := by decide +kernel
theorem dX6_stroke_55 : decode cX6_stroke 55 = .ok (.iconst 3, 1) := by decide +kernel
theorem dX6_stroke_56 : decode cX6_stroke 56 = .ok (.invokevirtual 86, 3) := by decide +kernel
theorem dX6_stroke_59 : decode cX6_stroke 59 = .ok (.ireturn, 1) := by decide +kernel
theorem dX6_stroke_60 : decode cX6_stroke 60 = .ok (.aload_n 0, 1) := by decide +kernel
theorem dX6_stroke_61 : decode cX6_stroke 61 = .ok (.getfield 7, 3) := by decide +kernel
theorem dX6_stroke_64 : decode cX6_stroke 64 = .ok (.aload_n 0, 1) := by decide +kernel
theorem dX6_stroke_65 : decode cX6_stroke 65 = .ok (.getfield 68, 3) := by decide +kernel
theorem dX6_stroke_68 : decode cX6_stroke 68 = .ok (.bipush 10, 2) := by decide +kernel
theorem dX6_stroke_70 : decode cX6_stroke 70 = .ok (.iload_n 1, 1) := by decide +kernel
theorem dX6_stroke_71 : decode cX6_stroke 71 = .ok (.imul, 1) := by decide +kernel
theorem dX6_stroke_72 : decode cX6_stroke 72 = .ok (.iload_n 2, 1) := by decide +kernel
theorem dX6_stroke_73 : decode cX6_stroke 73 = .ok (.iadd, 1) := by decide +kernel
theorem dX6_stroke_74 : decode cX6_stroke 74 = .ok (.iastore, 1) := by decide +kernel
theorem dX6_stroke_75 : decode cX6_stroke 75 = .ok (.aload_n 0, 1) := by decide +kernel
theorem dX6_stroke_76 : decode cX6_stroke 76 = .ok (.dup, 1) := by decide +kernel
theorem dX6_stroke_77 : decode cX6_stroke 77 = .ok (.getfield 68, 3) := by decide +kernel
theorem dX6_stroke_80 : decode cX6_stroke 80 = .ok (.iconst 1, 1) := by decide +kernel
theorem dX6_stroke_81 : decode cX6_stroke 81 = .ok (.iadd, 1) := by decide +kernel
theorem dX6_stroke_82 : decode cX6_stroke 82 = .ok (.putfield 68, 3) := by decide +kernel
theorem dX6_stroke_85 : decode cX6_stroke 85 = .ok (.aload_n 0, 1) := by decide +kernel
theorem dX6_stroke_86 : decode cX6_stroke 86 = .ok (.getfield 68, 3) := by decide +kernel
theorem dX6_stroke_89 : decode cX6_stroke 89 = .ok (.ireturn, 1) := by decide +kernel
theorem dX6_lift_0 : decode cX6_lift 0 = .ok (.aload_n 0, 1) := by decide +kernel
theorem dX6_lift_1 : decode cX6_lift 1 = .ok (.iconst 0, 1) := by decide +kernel
theorem dX6_lift_2 : decode cX6_lift 2 = .ok (.putfield 72, 3) := by decide +kernel
theorem dX6_lift_5 : decode cX6_lift 5 = .ok (.aload_n 0, 1) := by decide +kernel
theorem dX6_lift_6 : decode cX6_lift 6 = .ok (.getfield 68, 3) := by decide +kernel
theorem dX6_lift_9 : decode cX6_lift 9 = .ok (.istore_n 1, 1) := by decide +kernel
theorem dX6_lift_10 : decode cX6_lift 10 = .ok (.aload_n 0, 1) := by decide +kernel
theorem dX6_lift_11 : decode cX6_lift 11 = .ok (.iconst 0, 1) := by decide +kernel
theorem dX6_lift_12 : decode cX6_lift 12 = .ok (.putfield 68, 3) := by decide +kernel
theorem dX6_lift_15 : decode cX6_lift 15 = .ok (.iload_n 1, 1) := by decide +kernel
theorem dX6_lift_16 : decode cX6_lift 16 = .ok (.ireturn, 1) := by decide +kernel
set_option maxRecDepth 20000 in
theorem ggX6_letter_X6_in : GoodIn wsX6_letter wsX6_in := goodIn_r _ [9] (by decide +kernel) (by decide +kernel)
set_option maxRecDepth 20000 in
theorem gX6_letter_X6_in : GoodIn wsX6_letter (va_wsS RX6 78 yX6_in wsX6_in) := goodIn_app (goodIn_of _ (by decide +kernel)) ggX6_letter_X6_in
set_option maxRecDepth 20000 in
theorem ggX6_letter_X6_areOneLine : GoodIn wsX6_letter wsX6_areOneLine := goodIn_r _ [12] (by decide +kernel) (by decide +kernel)
set_option maxRecDepth 20000 in
theorem gX6_letter_X6_areOneLine : GoodIn wsX6_letter (va_wsS RX6 93 yX6_areOneLine wsX6_areOneLine) := goodIn_app (goodIn_of _ (by decide +kernel)) ggX6_letter_X6_areOneLine
set_option maxRecDepth 20000 in
theorem ggX6_letter_X6_asks : GoodIn wsX6_letter wsX6_asks := goodIn_r _ [16, 17, 18, 19, 20, 21, 22, 23, 24, 25, 26, 27, 28, 29, 30, 31, 32, 33, 34, 35, 36, 37, 38, 39, 40, 41] (by decide +kernel) (by decide +kernel)
set_option maxRecDepth 20000 in
theorem gX6_letter_X6_asks : GoodIn wsX6_letter (wsV RX6 82 RX6 yX6_asks wsX6_asks) := goodIn_app (goodIn_of _ (by decide +kernel)) ggX6_letter_X6_asks
theorem dX6_letter_0 : decode cX6_letter 0 = .ok (.aload_n 0, 1) := by decide +kernel
theorem dX6_letter_1 : decode cX6_letter 1 = .ok (.getfield 68, 3) := by decide +kernel
theorem dX6_letter_4 : decode cX6_letter 4 = .ok (.iconst 1, 1) := by decide +kernel
theorem dX6_letter_5 : decode cX6_letter 5 = .ok (.bipush 6, 2) := by decide +kernel
theorem dX6_letter_7 : decode cX6_letter 7 = .ok (.invokestatic 78, 3) := by decide +kernel
theorem dX6_letter_10 : decode cX6_letter 10 = .ok (.ifCond .eq 16, 3) := by decide +kernel
theorem dX6_letter_13 : decode cX6_letter 13 = .ok (.aload_n 0, 1) := by decide +kernel
theorem dX6_letter_14 : decode cX6_letter 14 = .ok (.getfield 90, 3) := by decide +kernel
theorem dX6_letter_17 : decode cX6_letter 17 = .ok (.bipush 10, 2) := by decide +kernel
theorem dX6_letter_19 : decode cX6_letter 19 = .ok (.if_icmp .ge 7, 3) := by decide +kernel
theorem dX6_letter_22 : decode cX6_letter 22 = .ok (.iconst 1, 1) := by decide +kernel
theorem dX6_letter_23 : decode cX6_letter 23 = .ok (.goto 4, 3) := by decide +kernel
theorem dX6_letter_26 : decode cX6_letter 26 = .ok (.iconst 0, 1) := by decide +kernel
theorem dX6_letter_27 : decode cX6_letter 27 = .ok (.istore_n 1, 1) := by decide +kernel
theorem dX6_letter_28 : decode cX6_letter 28 = .ok (.iconst 0, 1) := by decide +kernel
theorem dX6_letter_29 : decode cX6_letter 29 = .ok (.istore_n 2, 1) := by decide +kernel
theorem dX6_letter_30 : decode cX6_letter 30 = .ok (.iload_n 2, 1) := by decide +kernel
theorem dX6_letter_31 : decode cX6_letter 31 = .ok (.aload_n 0, 1) := by decide +kernel
theorem dX6_letter_32 : decode cX6_letter 32 = .ok (.getfield 68, 3) := by decide +kernel
theorem dX6_letter_35 : decode cX6_letter 35 = .ok (.if_icmp .ge 50, 3) := by decide +kernel
theorem dX6_letter_38 : decode cX6_letter 38 = .ok (.iconst 0, 1) := by decide +kernel
theorem dX6_letter_39 : decode cX6_letter 39 = .ok (.istore_n 3, 1) := by decide +kernel
theorem dX6_letter_40 : decode cX6_letter 40 = .ok (.iload_n 3, 1) := by decide +kernel
theorem dX6_letter_41 : decode cX6_letter 41 = .ok (.iload_n 2, 1) := by decide +kernel
theorem dX6_letter_42 : decode cX6_letter 42 = .ok (.if_icmp .ge 37, 3) := by decide +kernel
theorem dX6_letter_45 : decode cX6_letter 45 = .ok (.iload_n 1, 1) := by decide +kernel
theorem dX6_letter_46 : decode cX6_letter 46 = .ok (.ifCond .eq 25, 3) := by decide +kernel
theorem dX6_letter_49 : decode cX6_letter 49 = .ok (.aload_n 0, 1) := by decide +kernel
theorem dX6_letter_50 : decode cX6_letter 50 = .ok (.getfield 7, 3) := by decide +kernel
theorem dX6_letter_53 : decode cX6_letter 53 = .ok (.iload_n 3, 1) := by decide +kernel
theorem dX6_letter_54 : decode cX6_letter 54 = .ok (.iaload, 1) := by decide +kernel
theorem dX6_letter_55 : decode cX6_letter 55 = .ok (.aload_n 0, 1) := by decide +kernel
theorem dX6_letter_56 : decode cX6_letter 56 = .ok (.getfield 7, 3) := by decide +kernel
theorem dX6_letter_59 : decode cX6_letter 59 = .ok (.iload_n 2, 1) := by decide +kernel
theorem dX6_letter_60 : decode cX6_letter 60 = .ok (.iaload, 1) := by decide +kernel
theorem dX6_letter_61 : decode cX6_letter 61 = .ok (.invokestatic 93, 3) := by decide +kernel
theorem dX6_letter_64 : decode cX6_letter 64 = .ok (.ifCond .ne 7, 3) := by decide +kernel
theorem dX6_letter_67 : decode cX6_letter 67 = .ok (.iconst 1, 1) := by decide +kernel
theorem dX6_letter_68 : decode cX6_letter 68 = .ok (.goto 4, 3) := by decide +kernel
theorem dX6_letter_71 : decode cX6_letter 71 = .ok (.iconst 0, 1) := by decide +kernel
theorem dX6_letter_72 : decode cX6_letter 72 = .ok (.istore_n 1, 1) := by decide +kernel
theorem dX6_letter_73 : decode cX6_letter 73 = .ok (.iinc 3 1, 3) := by decide +kernel
theorem dX6_letter_76 : decode cX6_letter 76 = .ok (.goto (-36), 3) := by decide +kernel
theorem dX6_letter_79 : decode cX6_letter 79 = .ok (.iinc 2 1, 3) := by decide +kernel
theorem dX6_letter_82 : decode cX6_letter 82 = .ok (.goto (-52), 3) := by decide +kernel
theorem dX6_letter_85 : decode cX6_letter 85 = .ok (.aload_n 0, 1) := by decide +kernel
theorem dX6_letter_86 : decode cX6_letter 86 = .ok (.iload_n 1, 1) := by decide +kernel
theorem dX6_letter_87 : decode cX6_letter 87 = .ok (.invokevirtual 82, 3) := by decide +kernel
theorem dX6_letter_90 : decode cX6_letter 90 = .ok (.ifCond .ne 5, 3) := by decide +kernel
theorem dX6_letter_93 : decode cX6_letter 93 = .ok (.iconst 0, 1) := by decide +kernel
theorem dX6_letter_94 : decode cX6_letter 94 = .ok (.ireturn, 1) := by decide +kernel
theorem dX6_letter_95 : decode cX6_letter 95 = .ok (.iconst 0, 1) := by decide +kernel
theorem dX6_letter_96 : decode cX6_letter 96 = .ok (.istore_n 2, 1) := by decide +kernel
theorem dX6_letter_97 : decode cX6_letter 97 = .ok (.iload_n 2, 1) := by decide +kernel
theorem dX6_letter_98 : decode cX6_letter 98 = .ok (.aload_n 0, 1) := by decide +kernel
theorem dX6_letter_99 : decode cX6_letter 99 = .ok (.getfield 68, 3) := by decide +kernel
theorem dX6_letter_102 : decode cX6_letter 102 = .ok (.if_icmp .ge 29, 3) := by decide +kernel
theorem dX6_letter_105 : decode cX6_letter 105 = .ok (.aload_n 0, 1) := by decide +kernel
theorem dX6_letter_106 : decode cX6_letter 106 = .ok (.getfield 13, 3) := by decide +kernel
theorem dX6_letter_109 : decode cX6_letter 109 = .ok (.bipush 6, 2) := by decide +kernel
theorem dX6_letter_111 : decode cX6_letter 111 = .ok (.aload_n 0, 1) := by decide +kernel
theorem dX6_letter_112 : decode cX6_letter 112 = .ok (.getfield 90, 3) := by decide +kernel
theorem dX6_letter_115 : decode cX6_letter 115 = .ok (.imul, 1) := by decide +kernel
theorem dX6_letter_116 : decode cX6_letter 116 = .ok (.iload_n 2, 1) := by decide +kernel
theorem dX6_letter_117 : decode cX6_letter 117 = .ok (.iadd, 1) := by decide +kernel
theorem dX6_letter_118 : decode cX6_letter 118 = .ok (.aload_n 0, 1) := by decide +kernel
theorem dX6_letter_119 : decode cX6_letter 119 = .ok (.getfield 7, 3) := by decide +kernel
theorem dX6_letter_122 : decode cX6_letter 122 = .ok (.iload_n 2, 1) := by decide +kernel
theorem dX6_letter_123 : decode cX6_letter 123 = .ok (.iaload, 1) := by decide +kernel
theorem dX6_letter_124 : decode cX6_letter 124 = .ok (.iastore, 1) := by decide +kernel
theorem dX6_letter_125 : decode cX6_letter 125 = .ok (.iinc 2 1, 3) := by decide +kernel
theorem dX6_letter_128 : decode cX6_letter 128 = .ok (.goto (-31), 3) := by decide +kernel
theorem dX6_letter_131 : decode cX6_letter 131 = .ok (.aload_n 0, 1) := by decide +kernel
theorem dX6_letter_132 : decode cX6_letter 132 = .ok (.getfield 16, 3) := by decide +kernel
theorem dX6_letter_135 : decode cX6_letter 135 = .ok (.aload_n 0, 1) := by decide +kernel
theorem dX6_letter_136 : decode cX6_letter 136 = .ok (.getfield 90, 3) := by decide +kernel
theorem dX6_letter_139 : decode cX6_letter 139 = .ok (.aload_n 0, 1) := by decide +kernel
theorem dX6_letter_140 : decode cX6_letter 140 = .ok (.getfield 68, 3) := by decide +kernel
theorem dX6_letter_143 : decode cX6_letter 143 = .ok (.iastore, 1) := by decide +kernel
theorem dX6_letter_144 : decode cX6_letter 144 = .ok (.aload_n 0, 1) := by decide +kernel
theorem dX6_letter_145 : decode cX6_letter 145 = .ok (.iconst 0, 1) := by decide +kernel
theorem dX6_letter_146 : decode cX6_letter 146 = .ok (.putfield 68, 3) := by decide +kernel
theorem dX6_letter_149 : decode cX6_letter 149 = .ok (.aload_n 0, 1) := by decide +kernel
theorem dX6_letter_150 : decode cX6_letter 150 = .ok (.dup, 1) := by decide +kernel
theorem dX6_letter_151 : decode cX6_letter 151 = .ok (.getfield 90, 3) := by decide +kernel
theorem dX6_letter_154 : decode cX6_letter 154 = .ok (.iconst 1, 1) := by decide +kernel
theorem dX6_letter_155 : decode cX6_letter 155 = .ok (.iadd, 1) := by decide +kernel
theorem dX6_letter_156 : decode cX6_letter 156 = .ok (.putfield 90, 3) := by decide +kernel
theorem dX6_letter_159 : decode cX6_letter 159 = .ok (.aload_n 0, 1) := by decide +kernel
theorem dX6_letter_160 : decode cX6_letter 160 = .ok (.getfield 90, 3) := by decide +kernel
theorem dX6_letter_163 : decode cX6_letter 163 = .ok (.iconst 1, 1) := by decide +kernel
theorem dX6_letter_164 : decode cX6_letter 164 = .ok (.isub, 1) := by decide +kernel
theorem dX6_letter_165 : decode cX6_letter 165 = .ok (.ireturn, 1) := by decide +kernel
set_option maxRecDepth 20000 in
theorem ggX6_isLetter_X6_in : GoodIn wsX6_isLetter wsX6_in := goodIn_r _ [5] (by decide +kernel) (by decide +kernel)
set_option maxRecDepth 20000 in
theorem gX6_isLetter_X6_in : GoodIn wsX6_isLetter (va_wsS RX6 78 yX6_in wsX6_in) := goodIn_app (goodIn_of _ (by decide +kernel)) ggX6_isLetter_X6_in
theorem dX6_isLetter_0 : decode cX6_isLetter 0 = .ok (.iload_n 1, 1) := by decide +kernel
theorem dX6_isLetter_1 : decode cX6_isLetter 1 = .ok (.iconst 0, 1) := by decide +kernel
theorem dX6_isLetter_2 : decode cX6_isLetter 2 = .ok (.aload_n 0, 1) := by decide +kernel
theorem dX6_isLetter_3 : decode cX6_isLetter 3 = .ok (.getfield 90, 3) := by decide +kernel
theorem dX6_isLetter_6 : decode cX6_isLetter 6 = .ok (.iconst 1, 1) := by decide +kernel
theorem dX6_isLetter_7 : decode cX6_isLetter 7 = .ok (.isub, 1) := by decide +kernel
theorem dX6_isLetter_8 : decode cX6_isLetter 8 = .ok (.invokestatic 78, 3) := by decide +kernel
theorem dX6_isLetter_11 : decode cX6_isLetter 11 = .ok (.ireturn, 1) := by decide +kernel
set_option maxRecDepth 20000 in
theorem ggX6_strokeOf_X6_isLetter : GoodIn wsX6_strokeOf wsX6_isLetter := goodIn_r _ [7, 8, 9, 10, 6, 11, 17, 18, 19, 20, 21, 22, 23, 24, 25, 26, 27, 28, 29, 30, 31, 32, 33, 34, 35, 36, 37, 38, 39, 40] (by decide +kernel) (by decide +kernel)
set_option maxRecDepth 20000 in
theorem gX6_strokeOf_X6_isLetter : GoodIn wsX6_strokeOf (wsV RX6 97 RX6 yX6_isLetter wsX6_isLetter) := goodIn_app (goodIn_of _ (by decide +kernel)) ggX6_strokeOf_X6_isLetter
set_option maxRecDepth 20000 in
theorem ggX6_strokeOf_X6_asks : GoodIn wsX6_strokeOf wsX6_asks := goodIn_r _ [15, 16, 17, 18, 19, 20, 21, 22, 23, 24, 25, 26, 27, 28, 29, 30, 31, 32, 33, 34, 35, 36, 37, 38, 39, 40] (by decide +kernel) (by decide +kernel)
set_option maxRecDepth 20000 in
theorem gX6_strokeOf_X6_asks : GoodIn wsX6_strokeOf (wsV RX6 82 RX6 yX6_asks wsX6_asks) := goodIn_app (goodIn_of _ (by decide +kernel)) ggX6_strokeOf_X6_asks
theorem dX6_strokeOf_0 : decode cX6_strokeOf 0 = .ok (.aload_n 0, 1) := by decide +kernel
theorem dX6_strokeOf_1 : decode cX6_strokeOf 1 = .ok (.aload_n 0, 1) := by decide +kernel
theorem dX6_strokeOf_2 : decode cX6_strokeOf 2 = .ok (.iload_n 1, 1) := by decide +kernel
theorem dX6_strokeOf_3 : decode cX6_strokeOf 3 = .ok (.invokevirtual 97, 3) := by decide +kernel
theorem dX6_strokeOf_6 : decode cX6_strokeOf 6 = .ok (.ifCond .eq 11, 3) := by decide +kernel
theorem dX6_strokeOf_9 : decode cX6_strokeOf 9 = .ok (.iload_n 2, 1) := by decide +kernel
theorem dX6_strokeOf_10 : decode cX6_strokeOf 10 = .ok (.ifCond .lt 7, 3) := by decide +kernel
theorem dX6_strokeOf_13 : decode cX6_strokeOf 13 = .ok (.iconst 1, 1) := by decide +kernel
theorem dX6_strokeOf_14 : decode cX6_strokeOf 14 = .ok (.goto 4, 3) := by decide +kernel
theorem dX6_strokeOf_17 : decode cX6_strokeOf 17 = .ok (.iconst 0, 1) := by decide +kernel
theorem dX6_strokeOf_18 : decode cX6_strokeOf 18 = .ok (.invokevirtual 82, 3) := by decide +kernel
theorem dX6_strokeOf_21 : decode cX6_strokeOf 21 = .ok (.ifCond .ne 5, 3) := by decide +kernel
theorem dX6_strokeOf_24 : decode cX6_strokeOf 24 = .ok (.iconst 0, 1) := by decide +kernel
theorem dX6_strokeOf_25 : decode cX6_strokeOf 25 = .ok (.ireturn, 1) := by decide +kernel
theorem dX6_strokeOf_26 : decode cX6_strokeOf 26 = .ok (.iload_n 2, 1) := by decide +kernel
theorem dX6_strokeOf_27 : decode cX6_strokeOf 27 = .ok (.aload_n 0, 1) := by decide +kernel
theorem dX6_strokeOf_28 : decode cX6_strokeOf 28 = .ok (.getfield 16, 3) := by decide +kernel
theorem dX6_strokeOf_31 : decode cX6_strokeOf 31 = .ok (.iload_n 1, 1) := by decide +kernel
theorem dX6_strokeOf_32 : decode cX6_strokeOf 32 = .ok (.iaload, 1) := by decide +kernel
theorem dX6_strokeOf_33 : decode cX6_strokeOf 33 = .ok (.if_icmp .ge 17, 3) := by decide +kernel
theorem dX6_strokeOf_36 : decode cX6_strokeOf 36 = .ok (.aload_n 0, 1) := by decide +kernel
theorem dX6_strokeOf_37 : decode cX6_strokeOf 37 = .ok (.getfield 13, 3) := by decide +kernel
theorem dX6_strokeOf_40 : decode cX6_strokeOf 40 = .ok (.bipush 6, 2) := by decide +kernel
theorem dX6_strokeOf_42 : decode cX6_strokeOf 42 = .ok (.iload_n 1, 1) := by decide +kernel
theorem dX6_strokeOf_43 : decode cX6_strokeOf 43 = .ok (.imul, 1) := by decide +kernel
theorem dX6_strokeOf_44 : decode cX6_strokeOf 44 = .ok (.iload_n 2, 1) := by decide +kernel
theorem dX6_strokeOf_45 : decode cX6_strokeOf 45 = .ok (.iadd, 1) := by decide +kernel
theorem dX6_strokeOf_46 : decode cX6_strokeOf 46 = .ok (.iaload, 1) := by decide +kernel
theorem dX6_strokeOf_47 : decode cX6_strokeOf 47 = .ok (.goto 4, 3) := by decide +kernel
theorem dX6_strokeOf_50 : decode cX6_strokeOf 50 = .ok (.iconst (-1), 1) := by decide +kernel
theorem dX6_strokeOf_51 : decode cX6_strokeOf 51 = .ok (.ireturn, 1) := by decide +kernel
set_option maxRecDepth 20000 in
theorem ggX6_pupil_X6_in : GoodIn wsX6_pupil wsX6_in := goodIn_r _ [8] (by decide +kernel) (by decide +kernel)
set_option maxRecDepth 20000 in
theorem gX6_pupil_X6_in : GoodIn wsX6_pupil (va_wsS RX6 78 yX6_in wsX6_in) := goodIn_app (goodIn_of _ (by decide +kernel)) ggX6_pupil_X6_in
set_option maxRecDepth 20000 in
theorem ggX6_pupil_X6_asks : GoodIn wsX6_pupil wsX6_asks := goodIn_r _ [12, 13, 18, 19, 20, 21, 22, 23, 24, 25, 26, 27, 28, 29, 30, 31, 32, 33, 34, 35, 36, 37, 38, 39, 40, 41] (by decide +kernel) (by decide +kernel)
set_option maxRecDepth 20000 in
theorem gX6_pupil_X6_asks : GoodIn wsX6_pupil (wsV RX6 82 RX6 yX6_asks wsX6_asks) := goodIn_app (goodIn_of _ (by decide +kernel)) ggX6_pupil_X6_asks
set_option maxRecDepth 20000 in
theorem ggX6_pupil_X6_fails : GoodIn wsX6_pupil wsX6_fails := goodIn_r _ [17, 13, 18, 19, 20, 21, 22, 23, 24, 25, 26, 27, 28, 29, 30, 31, 32, 33, 34, 35, 36, 37, 38, 39, 40, 41] (by decide +kernel) (by decide +kernel)
set_option maxRecDepth 20000 in
theorem gX6_pupil_X6_fails : GoodIn wsX6_pupil (wsV RX6 86 RX6 yX6_fails wsX6_fails) := goodIn_app (goodIn_of _ (by decide +kernel)) ggX6_pupil_X6_fails
theorem dX6_pupil_0 : decode cX6_pupil 0 = .ok (.aload_n 0, 1) := by decide +kernel
theorem dX6_pupil_1 : decode cX6_pupil 1 = .ok (.iload_n 1, 1) := by decide +kernel
theorem dX6_pupil_2 : decode cX6_pupil 2 = .ok (.iconst 0, 1) := by decide +kernel
theorem dX6_pupil_3 : decode cX6_pupil 3 = .ok (.iconst 3, 1) := by decide +kernel
theorem dX6_pupil_4 : decode cX6_pupil 4 = .ok (.invokestatic 78, 3) := by decide +kernel
theorem dX6_pupil_7 : decode cX6_pupil 7 = .ok (.invokevirtual 82, 3) := by decide +kernel
theorem dX6_pupil_10 : decode cX6_pupil 10 = .ok (.ifCond .ne 5, 3) := by decide +kernel
theorem dX6_pupil_13 : decode cX6_pupil 13 = .ok (.iconst 0, 1) := by decide +kernel
theorem dX6_pupil_14 : decode cX6_pupil 14 = .ok (.ireturn, 1) := by decide +kernel
theorem dX6_pupil_15 : decode cX6_pupil 15 = .ok (.iload_n 2, 1) := by decide +kernel
theorem dX6_pupil_16 : decode cX6_pupil 16 = .ok (.iconst 5, 1) := by decide +kernel
theorem dX6_pupil_17 : decode cX6_pupil 17 = .ok (.bipush 16, 2) := by decide +kernel
theorem dX6_pupil_19 : decode cX6_pupil 19 = .ok (.invokestatic 78, 3) := by decide +kernel
theorem dX6_pupil_22 : decode cX6_pupil 22 = .ok (.ifCond .ne 9, 3) := by decide +kernel
theorem dX6_pupil_25 : decode cX6_pupil 25 = .ok (.aload_n 0, 1) := by decide +kernel
theorem dX6_pupil_26 : decode cX6_pupil 26 = .ok (.iconst 2, 1) := by decide +kernel
theorem dX6_pupil_27 : decode cX6_pupil 27 = .ok (.invokevirtual 86, 3) := by decide +kernel
theorem dX6_pupil_30 : decode cX6_pupil 30 = .ok (.ireturn, 1) := by decide +kernel
theorem dX6_pupil_31 : decode cX6_pupil 31 = .ok (.aload_n 0, 1) := by decide +kernel
theorem dX6_pupil_32 : decode cX6_pupil 32 = .ok (.getfield 101, 3) := by decide +kernel
theorem dX6_pupil_35 : decode cX6_pupil 35 = .ok (.bipush 20, 2) := by decide +kernel
theorem dX6_pupil_37 : decode cX6_pupil 37 = .ok (.if_icmp .ne 9, 3) := by decide +kernel
theorem dX6_pupil_40 : decode cX6_pupil 40 = .ok (.aload_n 0, 1) := by decide +kernel
theorem dX6_pupil_41 : decode cX6_pupil 41 = .ok (.iconst 3, 1) := by decide +kernel
theorem dX6_pupil_42 : decode cX6_pupil 42 = .ok (.invokevirtual 86, 3) := by decide +kernel
theorem dX6_pupil_45 : decode cX6_pupil 45 = .ok (.ireturn, 1) := by decide +kernel
theorem dX6_pupil_46 : decode cX6_pupil 46 = .ok (.aload_n 0, 1) := by decide +kernel
theorem dX6_pupil_47 : decode cX6_pupil 47 = .ok (.getfield 19, 3) := by decide +kernel
theorem dX6_pupil_50 : decode cX6_pupil 50 = .ok (.aload_n 0, 1) := by decide +kernel
theorem dX6_pupil_51 : decode cX6_pupil 51 = .ok (.getfield 101, 3) := by decide +kernel
theorem dX6_pupil_54 : decode cX6_pupil 54 = .ok (.iload_n 1, 1) := by decide +kernel
theorem dX6_pupil_55 : decode cX6_pupil 55 = .ok (.iastore, 1) := by decide +kernel
theorem dX6_pupil_56 : decode cX6_pupil 56 = .ok (.aload_n 0, 1) := by decide +kernel
theorem dX6_pupil_57 : decode cX6_pupil 57 = .ok (.getfield 22, 3) := by decide +kernel
theorem dX6_pupil_60 : decode cX6_pupil 60 = .ok (.aload_n 0, 1) := by decide +kernel
theorem dX6_pupil_61 : decode cX6_pupil 61 = .ok (.getfield 101, 3) := by decide +kernel
theorem dX6_pupil_64 : decode cX6_pupil 64 = .ok (.iload_n 2, 1) := by decide +kernel
theorem dX6_pupil_65 : decode cX6_pupil 65 = .ok (.iastore, 1) := by decide +kernel
theorem dX6_pupil_66 : decode cX6_pupil 66 = .ok (.aload_n 0, 1) := by decide +kernel
theorem dX6_pupil_67 : decode cX6_pupil 67 = .ok (.getfield 25, 3) := by decide +kernel
theorem dX6_pupil_70 : decode cX6_pupil 70 = .ok (.aload_n 0, 1) := by decide +kernel
theorem dX6_pupil_71 : decode cX6_pupil 71 = .ok (.getfield 101, 3) := by decide +kernel
theorem dX6_pupil_74 : decode cX6_pupil 74 = .ok (.iload_n 3, 1) := by decide +kernel
theorem dX6_pupil_75 : decode cX6_pupil 75 = .ok (.bastore, 1) := by decide +kernel
theorem dX6_pupil_76 : decode cX6_pupil 76 = .ok (.aload_n 0, 1) := by decide +kernel
theorem dX6_pupil_77 : decode cX6_pupil 77 = .ok (.dup, 1) := by decide +kernel
theorem dX6_pupil_78 : decode cX6_pupil 78 = .ok (.getfield 101, 3) := by decide +kernel
theorem dX6_pupil_81 : decode cX6_pupil 81 = .ok (.iconst 1, 1) := by decide +kernel
theorem dX6_pupil_82 : decode cX6_pupil 82 = .ok (.iadd, 1) := by decide +kernel
theorem dX6_pupil_83 : decode cX6_pupil 83 = .ok (.putfield 101, 3) := by decide +kernel
theorem dX6_pupil_86 : decode cX6_pupil 86 = .ok (.aload_n 0, 1) := by decide +kernel
theorem dX6_pupil_87 : decode cX6_pupil 87 = .ok (.getfield 101, 3) := by decide +kernel
theorem dX6_pupil_90 : decode cX6_pupil 90 = .ok (.iconst 1, 1) := by decide +kernel
theorem dX6_pupil_91 : decode cX6_pupil 91 = .ok (.isub, 1) := by decide +kernel
theorem dX6_pupil_92 : decode cX6_pupil 92 = .ok (.ireturn, 1) := by decide +kernel
theorem dX6_stack_0 : decode cX6_stack 0 = .ok (.iload_n 1, 1) := by decide +kernel
theorem dX6_stack_1 : decode cX6_stack 1 = .ok (.ifCond .eq 9, 3) := by decide +kernel
theorem dX6_stack_4 : decode cX6_stack 4 = .ok (.iconst 3, 1) := by decide +kernel
theorem dX6_stack_5 : decode cX6_stack 5 = .ok (.iload_n 0, 1) := by decide +kernel
theorem dX6_stack_6 : decode cX6_stack 6 = .ok (.iadd, 1) := by decide +kernel
theorem dX6_stack_7 : decode cX6_stack 7 = .ok (.goto 4, 3) := by decide +kernel
theorem dX6_stack_10 : decode cX6_stack 10 = .ok (.iload_n 0, 1) := by decide +kernel
theorem dX6_stack_11 : decode cX6_stack 11 = .ok (.ireturn, 1) := by decide +kernel
set_option maxRecDepth 20000 in
theorem ggX6_isBand_X6_in : GoodIn wsX6_isBand wsX6_in := goodIn_r _ [4] (by decide +kernel) (by decide +kernel)
set_option maxRecDepth 20000 in
theorem gX6_isBand_X6_in : GoodIn wsX6_isBand (va_wsS RX6 78 yX6_in wsX6_in) := goodIn_app (goodIn_of _ (by decide +kernel)) ggX6_isBand_X6_in
theorem dX6_isBand_0 : decode cX6_isBand 0 = .ok (.iload_n 0, 1) := by decide +kernel
theorem dX6_isBand_1 : decode cX6_isBand 1 = .ok (.iconst 0, 1) := by decide +kernel
theorem dX6_isBand_2 : decode cX6_isBand 2 = .ok (.iconst 2, 1) := by decide +kernel
theorem dX6_isBand_3 : decode cX6_isBand 3 = .ok (.invokestatic 78, 3) := by decide +kernel
theorem dX6_isBand_6 : decode cX6_isBand 6 = .ok (.ireturn, 1) := by decide +kernel
set_option maxRecDepth 20000 in
theorem ggX6_print_X6_isBand : GoodIn wsX6_print wsX6_isBand := goodIn_r _ [5, 6, 7, 4, 8] (by decide +kernel) (by decide +kernel)
set_option maxRecDepth 20000 in
theorem gX6_print_X6_isBand : GoodIn wsX6_print (va_wsS RX6 104 yX6_isBand wsX6_isBand) := goodIn_app (goodIn_of _ (by decide +kernel)) ggX6_print_X6_isBand
set_option maxRecDepth 20000 in
theorem ggX6_print_X6_asks : GoodIn wsX6_print wsX6_asks := goodIn_r _ [12, 13, 21, 22, 23, 24, 25, 26, 27, 28, 29, 30, 31, 32, 33, 34, 35, 36, 37, 38, 39, 40, 41, 42, 43, 44] (by decide +kernel) (by decide +kernel)
set_option maxRecDepth 20000 in
theorem gX6_print_X6_asks : GoodIn wsX6_print (wsV RX6 82 RX6 yX6_asks wsX6_asks) := goodIn_app (goodIn_of _ (by decide +kernel)) ggX6_print_X6_asks
set_option maxRecDepth 20000 in
theorem ggX6_print_X6_in : GoodIn wsX6_print wsX6_in := goodIn_r _ [8] (by decide +kernel) (by decide +kernel)
set_option maxRecDepth 20000 in
theorem gX6_print_X6_in : GoodIn wsX6_print (va_wsS RX6 78 yX6_in wsX6_in) := goodIn_app (goodIn_of _ (by decide +kernel)) ggX6_print_X6_in
set_option maxRecDepth 20000 in
theorem ggX6_print_X6_fails : GoodIn wsX6_print wsX6_fails := goodIn_r _ [17, 13, 21, 22, 23, 24, 25, 26, 27, 28, 29, 30, 31, 32, 33, 34, 35, 36, 37, 38, 39, 40, 41, 42, 43, 44] (by decide +kernel) (by decide +kernel)
set_option maxRecDepth 20000 in
theorem gX6_print_X6_fails : GoodIn wsX6_print (wsV RX6 86 RX6 yX6_fails wsX6_fails) := goodIn_app (goodIn_of _ (by decide +kernel)) ggX6_print_X6_fails
set_option maxRecDepth 20000 in
theorem ggX6_print_X6_stack : GoodIn wsX6_print wsX6_stack := goodIn_r _ [20] (by decide +kernel) (by decide +kernel)
set_option maxRecDepth 20000 in
theorem gX6_print_X6_stack : GoodIn wsX6_print (va_wsS RX6 107 yX6_stack wsX6_stack) := goodIn_app (goodIn_of _ (by decide +kernel)) ggX6_print_X6_stack
theorem dX6_print_0 : decode cX6_print 0 = .ok (.aload_n 0, 1) := by decide +kernel
theorem dX6_print_1 : decode cX6_print 1 = .ok (.iload_n 1, 1) := by decide +kernel
theorem dX6_print_2 : decode cX6_print 2 = .ok (.invokestatic 104, 3) := by decide +kernel
theorem dX6_print_5 : decode cX6_print 5 = .ok (.invokevirtual 82, 3) := by decide +kernel
theorem dX6_print_8 : decode cX6_print 8 = .ok (.ifCond .ne 5, 3) := by decide +kernel
theorem dX6_print_11 : decode cX6_print 11 = .ok (.iconst 0, 1) := by decide +kernel
theorem dX6_print_12 : decode cX6_print 12 = .ok (.ireturn, 1) := by decide +kernel
theorem dX6_print_13 : decode cX6_print 13 = .ok (.iload_n 3, 1) := by decide +kernel
theorem dX6_print_14 : decode cX6_print 14 = .ok (.iconst 1, 1) := by decide +kernel
theorem dX6_print_15 : decode cX6_print 15 = .ok (.bipush 50, 2) := by decide +kernel
theorem dX6_print_17 : decode cX6_print 17 = .ok (.invokestatic 78, 3) := by decide +kernel
theorem dX6_print_20 : decode cX6_print 20 = .ok (.ifCond .ne 9, 3) := by decide +kernel
theorem dX6_print_23 : decode cX6_print 23 = .ok (.aload_n 0, 1) := by decide +kernel
theorem dX6_print_24 : decode cX6_print 24 = .ok (.iconst 2, 1) := by decide +kernel
theorem dX6_print_25 : decode cX6_print 25 = .ok (.invokevirtual 86, 3) := by decide +kernel
theorem dX6_print_28 : decode cX6_print 28 = .ok (.ireturn, 1) := by decide +kernel
theorem dX6_print_29 : decode cX6_print 29 = .ok (.aload_n 0, 1) := by decide +kernel
theorem dX6_print_30 : decode cX6_print 30 = .ok (.getfield 29, 3) := by decide +kernel
theorem dX6_print_33 : decode cX6_print 33 = .ok (.iload_n 1, 1) := by decide +kernel
theorem dX6_print_34 : decode cX6_print 34 = .ok (.iload_n 2, 1) := by decide +kernel
theorem dX6_print_35 : decode cX6_print 35 = .ok (.invokestatic 107, 3) := by decide +kernel
theorem dX6_print_38 : decode cX6_print 38 = .ok (.dup2, 1) := by decide +kernel
theorem dX6_print_39 : decode cX6_print 39 = .ok (.iaload, 1) := by decide +kernel
theorem dX6_print_40 : decode cX6_print 40 = .ok (.iload_n 3, 1) := by decide +kernel
theorem dX6_print_41 : decode cX6_print 41 = .ok (.iadd, 1) := by decide +kernel
theorem dX6_print_42 : decode cX6_print 42 = .ok (.iastore, 1) := by decide +kernel
theorem dX6_print_43 : decode cX6_print 43 = .ok (.aload_n 0, 1) := by decide +kernel
theorem dX6_print_44 : decode cX6_print 44 = .ok (.getfield 29, 3) := by decide +kernel
theorem dX6_print_47 : decode cX6_print 47 = .ok (.iload_n 1, 1) := by decide +kernel
theorem dX6_print_48 : decode cX6_print 48 = .ok (.iload_n 2, 1) := by decide +kernel
theorem dX6_print_49 : decode cX6_print 49 = .ok (.invokestatic 107, 3) := by decide +kernel
theorem dX6_print_52 : decode cX6_print 52 = .ok (.iaload, 1) := by decide +kernel
theorem dX6_print_53 : decode cX6_print 53 = .ok (.ireturn, 1) := by decide +kernel
set_option maxRecDepth 20000 in
theorem ggX6_sheets_X6_isBand : GoodIn wsX6_sheets wsX6_isBand := goodIn_r _ [5, 6, 7, 4, 8] (by decide +kernel) (by decide +kernel)
set_option maxRecDepth 20000 in
theorem gX6_sheets_X6_isBand : GoodIn wsX6_sheets (va_wsS RX6 104 yX6_isBand wsX6_isBand) := goodIn_app (goodIn_of _ (by decide +kernel)) ggX6_sheets_X6_isBand
set_option maxRecDepth 20000 in
theorem ggX6_sheets_X6_asks : GoodIn wsX6_sheets wsX6_asks := goodIn_r _ [12, 13, 17, 18, 19, 20, 21, 22, 23, 24, 25, 26, 27, 28, 29, 30, 31, 32, 33, 34, 35, 36, 37, 38, 39, 40] (by decide +kernel) (by decide +kernel)
set_option maxRecDepth 20000 in
theorem gX6_sheets_X6_asks : GoodIn wsX6_sheets (wsV RX6 82 RX6 yX6_asks wsX6_asks) := goodIn_app (goodIn_of _ (by decide +kernel)) ggX6_sheets_X6_asks
set_option maxRecDepth 20000 in
theorem ggX6_sheets_X6_stack : GoodIn wsX6_sheets wsX6_stack := goodIn_r _ [16] (by decide +kernel) (by decide +kernel)
set_option maxRecDepth 20000 in
theorem gX6_sheets_X6_stack : GoodIn wsX6_sheets (va_wsS RX6 107 yX6_stack wsX6_stack) := goodIn_app (goodIn_of _ (by decide +kernel)) ggX6_sheets_X6_stack
theorem dX6_sheets_0 : decode cX6_sheets 0 = .ok (.aload_n 0, 1) := by decide +kernel
theorem dX6_sheets_1 : decode cX6_sheets 1 = .ok (.iload_n 1, 1) := by decide +kernel
theorem dX6_sheets_2 : decode cX6_sheets 2 = .ok (.invokestatic 104, 3) := by decide +kernel
theorem dX6_sheets_5 : decode cX6_sheets 5 = .ok (.invokevirtual 82, 3) := by decide +kernel
theorem dX6_sheets_8 : decode cX6_sheets 8 = .ok (.ifCond .eq 16, 3) := by decide +kernel
theorem dX6_sheets_11 : decode cX6_sheets 11 = .ok (.aload_n 0, 1) := by decide +kernel
theorem dX6_sheets_12 : decode cX6_sheets 12 = .ok (.getfield 29, 3) := by decide +kernel
theorem dX6_sheets_15 : decode cX6_sheets 15 = .ok (.iload_n 1, 1) := by decide +kernel
theorem dX6_sheets_16 : decode cX6_sheets 16 = .ok (.iload_n 2, 1) := by decide +kernel
theorem dX6_sheets_17 : decode cX6_sheets 17 = .ok (.invokestatic 107, 3) := by decide +kernel
theorem dX6_sheets_20 : decode cX6_sheets 20 = .ok (.iaload, 1) := by decide +kernel
theorem dX6_sheets_21 : decode cX6_sheets 21 = .ok (.goto 4, 3) := by decide +kernel
theorem dX6_sheets_24 : decode cX6_sheets 24 = .ok (.iconst 0, 1) := by decide +kernel
theorem dX6_sheets_25 : decode cX6_sheets 25 = .ok (.ireturn, 1) := by decide +kernel
theorem dX6_bandOf_0 : decode cX6_bandOf 0 = .ok (.aload_n 0, 1) := by decide +kernel
theorem dX6_bandOf_1 : decode cX6_bandOf 1 = .ok (.getfield 22, 3) := by decide +kernel
theorem dX6_bandOf_4 : decode cX6_bandOf 4 = .ok (.iload_n 1, 1) := by decide +kernel
theorem dX6_bandOf_5 : decode cX6_bandOf 5 = .ok (.iaload, 1) := by decide +kernel
theorem dX6_bandOf_6 : decode cX6_bandOf 6 = .ok (.bipush 8, 2) := by decide +kernel
theorem dX6_bandOf_8 : decode cX6_bandOf 8 = .ok (.if_icmp .ge 7, 3) := by decide +kernel
theorem dX6_bandOf_11 : decode cX6_bandOf 11 = .ok (.iconst 0, 1) := by decide +kernel
theorem dX6_bandOf_12 : decode cX6_bandOf 12 = .ok (.goto 19, 3) := by decide +kernel
theorem dX6_bandOf_15 : decode cX6_bandOf 15 = .ok (.aload_n 0, 1) := by decide +kernel
theorem dX6_bandOf_16 : decode cX6_bandOf 16 = .ok (.getfield 22, 3) := by decide +kernel
theorem dX6_bandOf_19 : decode cX6_bandOf 19 = .ok (.iload_n 1, 1) := by decide +kernel
theorem dX6_bandOf_20 : decode cX6_bandOf 20 = .ok (.iaload, 1) := by decide +kernel
theorem dX6_bandOf_21 : decode cX6_bandOf 21 = .ok (.bipush 12, 2) := by decide +kernel
theorem dX6_bandOf_23 : decode cX6_bandOf 23 = .ok (.if_icmp .ge 7, 3) := by decide +kernel
theorem dX6_bandOf_26 : decode cX6_bandOf 26 = .ok (.iconst 1, 1) := by decide +kernel
theorem dX6_bandOf_27 : decode cX6_bandOf 27 = .ok (.goto 4, 3) := by decide +kernel
theorem dX6_bandOf_30 : decode cX6_bandOf 30 = .ok (.iconst 2, 1) := by decide +kernel
theorem dX6_bandOf_31 : decode cX6_bandOf 31 = .ok (.ireturn, 1) := by decide +kernel
set_option maxRecDepth 20000 in
theorem ggX6_write_X6_in : GoodIn wsX6_write wsX6_in := goodIn_r _ [15] (by decide +kernel) (by decide +kernel)
set_option maxRecDepth 20000 in
theorem gX6_write_X6_in : GoodIn wsX6_write (va_wsS RX6 78 yX6_in wsX6_in) := goodIn_app (goodIn_of _ (by decide +kernel)) ggX6_write_X6_in
set_option maxRecDepth 20000 in
theorem ggX6_write_X6_isLetter : GoodIn wsX6_write wsX6_isLetter := goodIn_r _ [19, 20, 12, 13, 14, 15, 38, 39, 40, 41, 42, 43, 44, 45, 46, 47, 48, 49, 50, 51, 52, 53, 54, 55, 56, 57, 58, 59, 60, 61] (by decide +kernel) (by decide +kernel)
set_option maxRecDepth 20000 in
theorem gX6_write_X6_isLetter : GoodIn wsX6_write (wsV RX6 97 RX6 yX6_isLetter wsX6_isLetter) := goodIn_app (goodIn_of _ (by decide +kernel)) ggX6_write_X6_isLetter
set_option maxRecDepth 20000 in
theorem ggX6_write_X6_asks : GoodIn wsX6_write wsX6_asks := goodIn_r _ [24, 25, 38, 39, 40, 41, 42, 43, 44, 45, 46, 47, 48, 49, 50, 51, 52, 53, 54, 55, 56, 57, 58, 59, 60, 61] (by decide +kernel) (by decide +kernel)
set_option maxRecDepth 20000 in
theorem gX6_write_X6_asks : GoodIn wsX6_write (wsV RX6 82 RX6 yX6_asks wsX6_asks) := goodIn_app (goodIn_of _ (by decide +kernel)) ggX6_write_X6_asks
set_option maxRecDepth 20000 in
theorem ggX6_write_X6_bandOf : GoodIn wsX6_write wsX6_bandOf := goodIn_r _ [29, 30, 38, 39, 40, 41, 42, 43, 44, 45, 46, 47, 48, 49, 50, 51, 52, 53, 54, 55, 56, 57, 58, 59, 60, 61] (by decide +kernel) (by decide +kernel)
set_option maxRecDepth 20000 in
theorem gX6_write_X6_bandOf : GoodIn wsX6_write (wsV RX6 111 RX6 yX6_bandOf wsX6_bandOf) := goodIn_app (goodIn_of _ (by decide +kernel)) ggX6_write_X6_bandOf
set_option maxRecDepth 20000 in
theorem ggX6_write_X6_stack : GoodIn wsX6_write wsX6_stack := goodIn_r _ [33] (by decide +kernel) (by decide +kernel)
set_option maxRecDepth 20000 in
theorem gX6_write_X6_stack : GoodIn wsX6_write (va_wsS RX6 107 yX6_stack wsX6_stack) := goodIn_app (goodIn_of _ (by decide +kernel)) ggX6_write_X6_stack
set_option maxRecDepth 20000 in
theorem ggX6_write_X6_fails : GoodIn wsX6_write wsX6_fails := goodIn_r _ [37, 25, 38, 39, 40, 41, 42, 43, 44, 45, 46, 47, 48, 49, 50, 51, 52, 53, 54, 55, 56, 57, 58, 59, 60, 61] (by decide +kernel) (by decide +kernel)
set_option maxRecDepth 20000 in
theorem gX6_write_X6_fails : GoodIn wsX6_write (wsV RX6 86 RX6 yX6_fails wsX6_fails) := goodIn_app (goodIn_of _ (by decide +kernel)) ggX6_write_X6_fails
theorem dX6_write_0 : decode cX6_write 0 = .ok (.aload_n 0, 1) := by decide +kernel
theorem dX6_write_1 : decode cX6_write 1 = .ok (.iload_n 1, 1) := by decide +kernel
theorem dX6_write_2 : decode cX6_write 2 = .ok (.iconst 0, 1) := by decide +kernel
theorem dX6_write_3 : decode cX6_write 3 = .ok (.aload_n 0, 1) := by decide +kernel
theorem dX6_write_4 : decode cX6_write 4 = .ok (.getfield 101, 3) := by decide +kernel
theorem dX6_write_7 : decode cX6_write 7 = .ok (.iconst 1, 1) := by decide +kernel
theorem dX6_write_8 : decode cX6_write 8 = .ok (.isub, 1) := by decide +kernel
theorem dX6_write_9 : decode cX6_write 9 = .ok (.invokestatic 78, 3) := by decide +kernel
theorem dX6_write_12 : decode cX6_write 12 = .ok (.ifCond .eq 15, 3) := by decide +kernel
theorem dX6_write_15 : decode cX6_write 15 = .ok (.aload_n 0, 1) := by decide +kernel
theorem dX6_write_16 : decode cX6_write 16 = .ok (.iload_n 2, 1) := by decide +kernel
theorem dX6_write_17 : decode cX6_write 17 = .ok (.invokevirtual 97, 3) := by decide +kernel
theorem dX6_write_20 : decode cX6_write 20 = .ok (.ifCond .eq 7, 3) := by decide +kernel
theorem dX6_write_23 : decode cX6_write 23 = .ok (.iconst 1, 1) := by decide +kernel
theorem dX6_write_24 : decode cX6_write 24 = .ok (.goto 4, 3) := by decide +kernel
theorem dX6_write_27 : decode cX6_write 27 = .ok (.iconst 0, 1) := by decide +kernel
theorem dX6_write_28 : decode cX6_write 28 = .ok (.invokevirtual 82, 3) := by decide +kernel
theorem dX6_write_31 : decode cX6_write 31 = .ok (.ifCond .ne 5, 3) := by decide +kernel
theorem dX6_write_34 : decode cX6_write 34 = .ok (.iconst 0, 1) := by decide +kernel
theorem dX6_write_35 : decode cX6_write 35 = .ok (.ireturn, 1) := by decide +kernel
theorem dX6_write_36 : decode cX6_write 36 = .ok (.aload_n 0, 1) := by decide +kernel
theorem dX6_write_37 : decode cX6_write 37 = .ok (.iload_n 1, 1) := by decide +kernel
theorem dX6_write_38 : decode cX6_write 38 = .ok (.invokevirtual 111, 3) := by decide +kernel
theorem dX6_write_41 : decode cX6_write 41 = .ok (.istore_n 3, 1) := by decide +kernel
theorem dX6_write_42 : decode cX6_write 42 = .ok (.iload_n 3, 1) := by decide +kernel
theorem dX6_write_43 : decode cX6_write 43 = .ok (.ifCond .lt 27, 3) := by decide +kernel
theorem dX6_write_46 : decode cX6_write 46 = .ok (.aload_n 0, 1) := by decide +kernel
theorem dX6_write_47 : decode cX6_write 47 = .ok (.getfield 29, 3) := by decide +kernel
theorem dX6_write_50 : decode cX6_write 50 = .ok (.iload_n 3, 1) := by decide +kernel
theorem dX6_write_51 : decode cX6_write 51 = .ok (.aload_n 0, 1) := by decide +kernel
theorem dX6_write_52 : decode cX6_write 52 = .ok (.getfield 25, 3) := by decide +kernel
theorem dX6_write_55 : decode cX6_write 55 = .ok (.iload_n 1, 1) := by decide +kernel
theorem dX6_write_56 : decode cX6_write 56 = .ok (.baload, 1) := by decide +kernel
theorem dX6_write_57 : decode cX6_write 57 = .ok (.invokestatic 107, 3) := by decide +kernel
theorem dX6_write_60 : decode cX6_write 60 = .ok (.iaload, 1) := by decide +kernel
theorem dX6_write_61 : decode cX6_write 61 = .ok (.ifCond .ne 9, 3) := by decide +kernel
theorem dX6_write_64 : decode cX6_write 64 = .ok (.iinc 3 (-1), 3) := by decide +kernel
theorem dX6_write_67 : decode cX6_write 67 = .ok (.goto (-25), 3) := by decide +kernel
theorem dX6_write_70 : decode cX6_write 70 = .ok (.aload_n 0, 1) := by decide +kernel
theorem dX6_write_71 : decode cX6_write 71 = .ok (.getfield 75, 3) := by decide +kernel
theorem dX6_write_74 : decode cX6_write 74 = .ok (.bipush 40, 2) := by decide +kernel
theorem dX6_write_76 : decode cX6_write 76 = .ok (.if_icmp .eq 7, 3) := by decide +kernel
theorem dX6_write_79 : decode cX6_write 79 = .ok (.iload_n 3, 1) := by decide +kernel
theorem dX6_write_80 : decode cX6_write 80 = .ok (.ifCond .ge 9, 3) := by decide +kernel
theorem dX6_write_83 : decode cX6_write 83 = .ok (.aload_n 0, 1) := by decide +kernel
theorem dX6_write_84 : decode cX6_write 84 = .ok (.iconst 2, 1) := by decide +kernel
theorem dX6_write_85 : decode cX6_write 85 = .ok (.invokevirtual 86, 3) := by decide +kernel
theorem dX6_write_88 : decode cX6_write 88 = .ok (.ireturn, 1) := by decide +kernel
theorem dX6_write_89 : decode cX6_write 89 = .ok (.aload_n 0, 1) := by decide +kernel
theorem dX6_write_90 : decode cX6_write 90 = .ok (.getfield 29, 3) := by decide +kernel
theorem dX6_write_93 : decode cX6_write 93 = .ok (.iload_n 3, 1) := by decide +kernel
theorem dX6_write_94 : decode cX6_write 94 = .ok (.aload_n 0, 1) := by decide +kernel
theorem dX6_write_95 : decode cX6_write 95 = .ok (.getfield 25, 3) := by decide +kernel
theorem dX6_write_98 : decode cX6_write 98 = .ok (.iload_n 1, 1) := by decide +kernel
theorem dX6_write_99 : decode cX6_write 99 = .ok (.baload, 1) := by decide +kernel
theorem dX6_write_100 : decode cX6_write 100 = .ok (.invokestatic 107, 3) := by decide +kernel
theorem dX6_write_103 : decode cX6_write 103 = .ok (.dup2, 1) := by decide +kernel
theorem dX6_write_104 : decode cX6_write 104 = .ok (.iaload, 1) := by decide +kernel
theorem dX6_write_105 : decode cX6_write 105 = .ok (.iconst 1, 1) := by decide +kernel
theorem dX6_write_106 : decode cX6_write 106 = .ok (.isub, 1) := by decide +kernel
theorem dX6_write_107 : decode cX6_write 107 = .ok (.iastore, 1) := by decide +kernel
theorem dX6_write_108 : decode cX6_write 108 = .ok (.iconst 0, 1) := by decide +kernel
theorem dX6_write_109 : decode cX6_write 109 = .ok (.istore 4, 2) := by decide +kernel
theorem dX6_write_111 : decode cX6_write 111 = .ok (.iload 4, 2) := by decide +kernel
theorem dX6_write_113 : decode cX6_write 113 = .ok (.aload_n 0, 1) := by decide +kernel
theorem dX6_write_114 : decode cX6_write 114 = .ok (.getfield 68, 3) := by decide +kernel
theorem dX6_write_117 : decode cX6_write 117 = .ok (.if_icmp .ge 31, 3) := by decide +kernel
theorem dX6_write_120 : decode cX6_write 120 = .ok (.aload_n 0, 1) := by decide +kernel
theorem dX6_write_121 : decode cX6_write 121 = .ok (.getfield 32, 3) := by decide +kernel
theorem dX6_write_124 : decode cX6_write 124 = .ok (.bipush 8, 2) := by decide +kernel
theorem dX6_write_126 : decode cX6_write 126 = .ok (.aload_n 0, 1) := by decide +kernel
theorem dX6_write_127 : decode cX6_write 127 = .ok (.getfield 75, 3) := by decide +kernel
theorem dX6_write_130 : decode cX6_write 130 = .ok (.imul, 1) := by decide +kernel
theorem dX6_write_131 : decode cX6_write 131 = .ok (.iload 4, 2) := by decide +kernel
theorem dX6_write_133 : decode cX6_write 133 = .ok (.iadd, 1) := by decide +kernel
theorem dX6_write_134 : decode cX6_write 134 = .ok (.aload_n 0, 1) := by decide +kernel
theorem dX6_write_135 : decode cX6_write 135 = .ok (.getfield 7, 3) := by decide +kernel
theorem dX6_write_138 : decode cX6_write 138 = .ok (.iload 4, 2) := by decide +kernel
theorem dX6_write_140 : decode cX6_write 140 = .ok (.iaload, 1) := by decide +kernel
theorem dX6_write_141 : decode cX6_write 141 = .ok (.iastore, 1) := by decide +kernel
theorem dX6_write_142 : decode cX6_write 142 = .ok (.iinc 4 1, 3) := by decide +kernel
theorem dX6_write_145 : decode cX6_write 145 = .ok (.goto (-34), 3) := by decide +kernel
theorem dX6_write_148 : decode cX6_write 148 = .ok (.aload_n 0, 1) := by decide +kernel
theorem dX6_write_149 : decode cX6_write 149 = .ok (.getfield 35, 3) := by decide +kernel
theorem dX6_write_152 : decode cX6_write 152 = .ok (.aload_n 0, 1) := by decide +kernel
theorem dX6_write_153 : decode cX6_write 153 = .ok (.getfield 75, 3) := by decide +kernel
theorem dX6_write_156 : decode cX6_write 156 = .ok (.aload_n 0, 1) := by decide +kernel
theorem dX6_write_157 : decode cX6_write 157 = .ok (.getfield 68, 3) := by decide +kernel
theorem dX6_write_160 : decode cX6_write 160 = .ok (.iastore, 1) := by decide +kernel
theorem dX6_write_161 : decode cX6_write 161 = .ok (.aload_n 0, 1) := by decide +kernel
theorem dX6_write_162 : decode cX6_write 162 = .ok (.getfield 38, 3) := by decide +kernel
theorem dX6_write_165 : decode cX6_write 165 = .ok (.aload_n 0, 1) := by decide +kernel
theorem dX6_write_166 : decode cX6_write 166 = .ok (.getfield 75, 3) := by decide +kernel
theorem dX6_write_169 : decode cX6_write 169 = .ok (.iload_n 1, 1) := by decide +kernel
theorem dX6_write_170 : decode cX6_write 170 = .ok (.iastore, 1) := by decide +kernel
theorem dX6_write_171 : decode cX6_write 171 = .ok (.aload_n 0, 1) := by decide +kernel
theorem dX6_write_172 : decode cX6_write 172 = .ok (.getfield 41, 3) := by decide +kernel
theorem dX6_write_175 : decode cX6_write 175 = .ok (.aload_n 0, 1) := by decide +kernel
theorem dX6_write_176 : decode cX6_write 176 = .ok (.getfield 75, 3) := by decide +kernel
theorem dX6_write_179 : decode cX6_write 179 = .ok (.iload_n 2, 1) := by decide +kernel
theorem dX6_write_180 : decode cX6_write 180 = .ok (.iastore, 1) := by decide +kernel
theorem dX6_write_181 : decode cX6_write 181 = .ok (.aload_n 0, 1) := by decide +kernel
theorem dX6_write_182 : decode cX6_write 182 = .ok (.getfield 44, 3) := by decide +kernel
theorem dX6_write_185 : decode cX6_write 185 = .ok (.aload_n 0, 1) := by decide +kernel
theorem dX6_write_186 : decode cX6_write 186 = .ok (.getfield 75, 3) := by decide +kernel
theorem dX6_write_189 : decode cX6_write 189 = .ok (.iload_n 3, 1) := by decide +kernel
theorem dX6_write_190 : decode cX6_write 190 = .ok (.aload_n 0, 1) := by decide +kernel
theorem dX6_write_191 : decode cX6_write 191 = .ok (.iload_n 1, 1) := by decide +kernel
theorem dX6_write_192 : decode cX6_write 192 = .ok (.invokevirtual 111, 3) := by decide +kernel
theorem dX6_write_195 : decode cX6_write 195 = .ok (.if_icmp .ge 7, 3) := by decide +kernel
theorem dX6_write_198 : decode cX6_write 198 = .ok (.iconst 1, 1) := by decide +kernel
theorem dX6_write_199 : decode cX6_write 199 = .ok (.goto 4, 3) := by decide +kernel
theorem dX6_write_202 : decode cX6_write 202 = .ok (.iconst 0, 1) := by decide +kernel
theorem dX6_write_203 : decode cX6_write 203 = .ok (.bastore, 1) := by decide +kernel
theorem dX6_write_204 : decode cX6_write 204 = .ok (.aload_n 0, 1) := by decide +kernel
theorem dX6_write_205 : decode cX6_write 205 = .ok (.iconst 0, 1) := by decide +kernel
theorem dX6_write_206 : decode cX6_write 206 = .ok (.putfield 68, 3) := by decide +kernel
theorem dX6_write_209 : decode cX6_write 209 = .ok (.aload_n 0, 1) := by decide +kernel
theorem dX6_write_210 : decode cX6_write 210 = .ok (.dup, 1) := by decide +kernel
theorem dX6_write_211 : decode cX6_write 211 = .ok (.getfield 75, 3) := by decide +kernel
theorem dX6_write_214 : decode cX6_write 214 = .ok (.iconst 1, 1) := by decide +kernel
theorem dX6_write_215 : decode cX6_write 215 = .ok (.iadd, 1) := by decide +kernel
theorem dX6_write_216 : decode cX6_write 216 = .ok (.putfield 75, 3) := by decide +kernel
theorem dX6_write_219 : decode cX6_write 219 = .ok (.aload_n 0, 1) := by decide +kernel
theorem dX6_write_220 : decode cX6_write 220 = .ok (.getfield 75, 3) := by decide +kernel
theorem dX6_write_223 : decode cX6_write 223 = .ok (.iconst 1, 1) := by decide +kernel
theorem dX6_write_224 : decode cX6_write 224 = .ok (.isub, 1) := by decide +kernel
theorem dX6_write_225 : decode cX6_write 225 = .ok (.ireturn, 1) := by decide +kernel
set_option maxRecDepth 20000 in
theorem ggX6_strokeOn_X6_areOneLine : GoodIn wsX6_strokeOn wsX6_areOneLine := goodIn_r _ [8] (by decide +kernel) (by decide +kernel)
set_option maxRecDepth 20000 in
theorem gX6_strokeOn_X6_areOneLine : GoodIn wsX6_strokeOn (va_wsS RX6 93 yX6_areOneLine wsX6_areOneLine) := goodIn_app (goodIn_of _ (by decide +kernel)) ggX6_strokeOn_X6_areOneLine
theorem dX6_strokeOn_0 : decode cX6_strokeOn 0 = .ok (.aload_n 0, 1) := by decide +kernel
theorem dX6_strokeOn_1 : decode cX6_strokeOn 1 = .ok (.getfield 41, 3) := by decide +kernel
theorem dX6_strokeOn_4 : decode cX6_strokeOn 4 = .ok (.iload_n 1, 1) := by decide +kernel
theorem dX6_strokeOn_5 : decode cX6_strokeOn 5 = .ok (.iaload, 1) := by decide +kernel
theorem dX6_strokeOn_6 : decode cX6_strokeOn 6 = .ok (.istore_n 3, 1) := by decide +kernel
theorem dX6_strokeOn_7 : decode cX6_strokeOn 7 = .ok (.iconst (-1), 1) := by decide +kernel
theorem dX6_strokeOn_8 : decode cX6_strokeOn 8 = .ok (.istore 4, 2) := by decide +kernel
theorem dX6_strokeOn_10 : decode cX6_strokeOn 10 = .ok (.iconst 0, 1) := by decide +kernel
theorem dX6_strokeOn_11 : decode cX6_strokeOn 11 = .ok (.istore 5, 2) := by decide +kernel
theorem dX6_strokeOn_13 : decode cX6_strokeOn 13 = .ok (.iload 5, 2) := by decide +kernel
theorem dX6_strokeOn_15 : decode cX6_strokeOn 15 = .ok (.aload_n 0, 1) := by decide +kernel
theorem dX6_strokeOn_16 : decode cX6_strokeOn 16 = .ok (.getfield 16, 3) := by decide +kernel
theorem dX6_strokeOn_19 : decode cX6_strokeOn 19 = .ok (.iload_n 3, 1) := by decide +kernel
theorem dX6_strokeOn_20 : decode cX6_strokeOn 20 = .ok (.iaload, 1) := by decide +kernel
theorem dX6_strokeOn_21 : decode cX6_strokeOn 21 = .ok (.if_icmp .ge 47, 3) := by decide +kernel
theorem dX6_strokeOn_24 : decode cX6_strokeOn 24 = .ok (.aload_n 0, 1) := by decide +kernel
theorem dX6_strokeOn_25 : decode cX6_strokeOn 25 = .ok (.getfield 13, 3) := by decide +kernel
theorem dX6_strokeOn_28 : decode cX6_strokeOn 28 = .ok (.bipush 6, 2) := by decide +kernel
theorem dX6_strokeOn_30 : decode cX6_strokeOn 30 = .ok (.iload_n 3, 1) := by decide +kernel
theorem dX6_strokeOn_31 : decode cX6_strokeOn 31 = .ok (.imul, 1) := by decide +kernel
theorem dX6_strokeOn_32 : decode cX6_strokeOn 32 = .ok (.iload 5, 2) := by decide +kernel
theorem dX6_strokeOn_34 : decode cX6_strokeOn 34 = .ok (.iadd, 1) := by decide +kernel
theorem dX6_strokeOn_35 : decode cX6_strokeOn 35 = .ok (.iaload, 1) := by decide +kernel
theorem dX6_strokeOn_36 : decode cX6_strokeOn 36 = .ok (.aload_n 0, 1) := by decide +kernel
theorem dX6_strokeOn_37 : decode cX6_strokeOn 37 = .ok (.getfield 32, 3) := by decide +kernel
theorem dX6_strokeOn_40 : decode cX6_strokeOn 40 = .ok (.bipush 8, 2) := by decide +kernel
theorem dX6_strokeOn_42 : decode cX6_strokeOn 42 = .ok (.iload_n 1, 1) := by decide +kernel
theorem dX6_strokeOn_43 : decode cX6_strokeOn 43 = .ok (.imul, 1) := by decide +kernel
theorem dX6_strokeOn_44 : decode cX6_strokeOn 44 = .ok (.iload_n 2, 1) := by decide +kernel
theorem dX6_strokeOn_45 : decode cX6_strokeOn 45 = .ok (.iadd, 1) := by decide +kernel
theorem dX6_strokeOn_46 : decode cX6_strokeOn 46 = .ok (.iaload, 1) := by decide +kernel
theorem dX6_strokeOn_47 : decode cX6_strokeOn 47 = .ok (.invokestatic 93, 3) := by decide +kernel
theorem dX6_strokeOn_50 : decode cX6_strokeOn 50 = .ok (.ifCond .eq 8, 3) := by decide +kernel
theorem dX6_strokeOn_53 : decode cX6_strokeOn 53 = .ok (.iload 5, 2) := by decide +kernel
theorem dX6_strokeOn_55 : decode cX6_strokeOn 55 = .ok (.goto 5, 3) := by decide +kernel
theorem dX6_strokeOn_58 : decode cX6_strokeOn 58 = .ok (.iload 4, 2) := by decide +kernel
theorem dX6_strokeOn_60 : decode cX6_strokeOn 60 = .ok (.istore 4, 2) := by decide +kernel
theorem dX6_strokeOn_62 : decode cX6_strokeOn 62 = .ok (.iinc 5 1, 3) := by decide +kernel
theorem dX6_strokeOn_65 : decode cX6_strokeOn 65 = .ok (.goto (-52), 3) := by decide +kernel
theorem dX6_strokeOn_68 : decode cX6_strokeOn 68 = .ok (.iload 4, 2) := by decide +kernel
theorem dX6_strokeOn_70 : decode cX6_strokeOn 70 = .ok (.ireturn, 1) := by decide +kernel
set_option maxRecDepth 20000 in
theorem ggX6_counts_X6_strokeOn : GoodIn wsX6_counts wsX6_strokeOn := goodIn_r _ [5, 6, 7, 8, 9, 10, 11, 4, 12, 13, 14, 15, 16, 17, 18, 19, 20, 21, 22, 23, 24, 25, 26, 27, 28, 29, 30, 31, 32, 33, 34, 35, 36] (by decide +kernel) (by decide +kernel)
set_option maxRecDepth 20000 in
theorem gX6_counts_X6_strokeOn : GoodIn wsX6_counts (wsV RX6 114 RX6 yX6_strokeOn wsX6_strokeOn) := goodIn_app (goodIn_of _ (by decide +kernel)) ggX6_counts_X6_strokeOn
theorem dX6_counts_0 : decode cX6_counts 0 = .ok (.aload_n 0, 1) := by decide +kernel
theorem dX6_counts_1 : decode cX6_counts 1 = .ok (.iload_n 1, 1) := by decide +kernel
theorem dX6_counts_2 : decode cX6_counts 2 = .ok (.iload_n 2, 1) := by decide +kernel
theorem dX6_counts_3 : decode cX6_counts 3 = .ok (.invokevirtual 114, 3) := by decide +kernel
theorem dX6_counts_6 : decode cX6_counts 6 = .ok (.iconst (-1), 1) := by decide +kernel
theorem dX6_counts_7 : decode cX6_counts 7 = .ok (.if_icmp .eq 7, 3) := by decide +kernel
theorem dX6_counts_10 : decode cX6_counts 10 = .ok (.iconst 1, 1) := by decide +kernel
theorem dX6_counts_11 : decode cX6_counts 11 = .ok (.goto 4, 3) := by decide +kernel
theorem dX6_counts_14 : decode cX6_counts 14 = .ok (.iconst 0, 1) := by decide +kernel
theorem dX6_counts_15 : decode cX6_counts 15 = .ok (.istore_n 3, 1) := by decide +kernel
theorem dX6_counts_16 : decode cX6_counts 16 = .ok (.iconst 0, 1) := by decide +kernel
theorem dX6_counts_17 : decode cX6_counts 17 = .ok (.istore 4, 2) := by decide +kernel
theorem dX6_counts_19 : decode cX6_counts 19 = .ok (.iload 4, 2) := by decide +kernel
theorem dX6_counts_21 : decode cX6_counts 21 = .ok (.iload_n 2, 1) := by decide +kernel
theorem dX6_counts_22 : decode cX6_counts 22 = .ok (.if_icmp .ge 35, 3) := by decide +kernel
theorem dX6_counts_25 : decode cX6_counts 25 = .ok (.iload_n 3, 1) := by decide +kernel
theorem dX6_counts_26 : decode cX6_counts 26 = .ok (.ifCond .eq 23, 3) := by decide +kernel
theorem dX6_counts_29 : decode cX6_counts 29 = .ok (.aload_n 0, 1) := by decide +kernel
theorem dX6_counts_30 : decode cX6_counts 30 = .ok (.iload_n 1, 1) := by decide +kernel
theorem dX6_counts_31 : decode cX6_counts 31 = .ok (.iload 4, 2) := by decide +kernel
theorem dX6_counts_33 : decode cX6_counts 33 = .ok (.invokevirtual 114, 3) := by decide +kernel
theorem dX6_counts_36 : decode cX6_counts 36 = .ok (.aload_n 0, 1) := by decide +kernel
theorem dX6_counts_37 : decode cX6_counts 37 = .ok (.iload_n 1, 1) := by decide +kernel
theorem dX6_counts_38 : decode cX6_counts 38 = .ok (.iload_n 2, 1) := by decide +kernel
theorem dX6_counts_39 : decode cX6_counts 39 = .ok (.invokevirtual 114, 3) := by decide +kernel
theorem dX6_counts_42 : decode cX6_counts 42 = .ok (.if_icmp .eq 7, 3) := by decide +kernel
theorem dX6_counts_45 : decode cX6_counts 45 = .ok (.iconst 1, 1) := by decide +kernel
theorem dX6_counts_46 : decode cX6_counts 46 = .ok (.goto 4, 3) := by decide +kernel
theorem dX6_counts_49 : decode cX6_counts 49 = .ok (.iconst 0, 1) := by decide +kernel
theorem dX6_counts_50 : decode cX6_counts 50 = .ok (.istore_n 3, 1) := by decide +kernel
theorem dX6_counts_51 : decode cX6_counts 51 = .ok (.iinc 4 1, 3) := by decide +kernel
theorem dX6_counts_54 : decode cX6_counts 54 = .ok (.goto (-35), 3) := by decide +kernel
theorem dX6_counts_57 : decode cX6_counts 57 = .ok (.iload_n 3, 1) := by decide +kernel
theorem dX6_counts_58 : decode cX6_counts 58 = .ok (.ireturn, 1) := by decide +kernel
set_option maxRecDepth 20000 in
theorem ggX6_counting_X6_counts : GoodIn wsX6_counting wsX6_counts := goodIn_r _ [6, 7, 8, 9, 5, 10, 11, 12, 13, 14, 15, 16, 17, 18, 19, 20, 21, 22, 23, 24, 25, 26, 27, 28, 29, 30, 31, 32, 33, 34, 35, 36, 37, 38, 39, 40, 41] (by decide +kernel) (by decide +kernel)
set_option maxRecDepth 20000 in
theorem gX6_counting_X6_counts : GoodIn wsX6_counting (wsV RX6 118 RX6 yX6_counts wsX6_counts) := goodIn_app (goodIn_of _ (by decide +kernel)) ggX6_counting_X6_counts
theorem dX6_counting_0 : decode cX6_counting 0 = .ok (.iconst 0, 1) := by decide +kernel
theorem dX6_counting_1 : decode cX6_counting 1 = .ok (.istore_n 2, 1) := by decide +kernel
theorem dX6_counting_2 : decode cX6_counting 2 = .ok (.iconst 0, 1) := by decide +kernel
theorem dX6_counting_3 : decode cX6_counting 3 = .ok (.istore_n 3, 1) := by decide +kernel
theorem dX6_counting_4 : decode cX6_counting 4 = .ok (.iload_n 3, 1) := by decide +kernel
theorem dX6_counting_5 : decode cX6_counting 5 = .ok (.aload_n 0, 1) := by decide +kernel
theorem dX6_counting_6 : decode cX6_counting 6 = .ok (.getfield 35, 3) := by decide +kernel
theorem dX6_counting_9 : decode cX6_counting 9 = .ok (.iload_n 1, 1) := by decide +kernel
theorem dX6_counting_10 : decode cX6_counting 10 = .ok (.iaload, 1) := by decide +kernel
theorem dX6_counting_11 : decode cX6_counting 11 = .ok (.if_icmp .ge 26, 3) := by decide +kernel
theorem dX6_counting_14 : decode cX6_counting 14 = .ok (.iload_n 2, 1) := by decide +kernel
theorem dX6_counting_15 : decode cX6_counting 15 = .ok (.aload_n 0, 1) := by decide +kernel
theorem dX6_counting_16 : decode cX6_counting 16 = .ok (.iload_n 1, 1) := by decide +kernel
theorem dX6_counting_17 : decode cX6_counting 17 = .ok (.iload_n 3, 1) := by decide +kernel
theorem dX6_counting_18 : decode cX6_counting 18 = .ok (.invokevirtual 118, 3) := by decide +kernel
theorem dX6_counting_21 : decode cX6_counting 21 = .ok (.ifCond .eq 7, 3) := by decide +kernel
theorem dX6_counting_24 : decode cX6_counting 24 = .ok (.iconst 1, 1) := by decide +kernel
theorem dX6_counting_25 : decode cX6_counting 25 = .ok (.goto 4, 3) := by decide +kernel
theorem dX6_counting_28 : decode cX6_counting 28 = .ok (.iconst 0, 1) := by decide +kernel
theorem dX6_counting_29 : decode cX6_counting 29 = .ok (.iadd, 1) := by decide +kernel
theorem dX6_counting_30 : decode cX6_counting 30 = .ok (.istore_n 2, 1) := by decide +kernel
theorem dX6_counting_31 : decode cX6_counting 31 = .ok (.iinc 3 1, 3) := by decide +kernel
theorem dX6_counting_34 : decode cX6_counting 34 = .ok (.goto (-30), 3) := by decide +kernel
theorem dX6_counting_37 : decode cX6_counting 37 = .ok (.iload_n 2, 1) := by decide +kernel
theorem dX6_counting_38 : decode cX6_counting 38 = .ok (.ireturn, 1) := by decide +kernel
set_option maxRecDepth 20000 in
theorem ggX6_turned_X6_counts : GoodIn wsX6_turned wsX6_counts := goodIn_r _ [9, 10, 11, 12, 8, 13, 3, 14, 2, 4, 15, 16, 17, 18, 19, 20, 21, 22, 23, 24, 25, 26, 27, 28, 29, 30, 31, 32, 33, 34, 35, 36, 37, 38, 39, 40, 41] (by decide +kernel) (by decide +kernel)
set_option maxRecDepth 20000 in
theorem gX6_turned_X6_counts : GoodIn wsX6_turned (wsV RX6 118 RX6 yX6_counts wsX6_counts) := goodIn_app (goodIn_of _ (by decide +kernel)) ggX6_turned_X6_counts
set_option maxRecDepth 20000 in
theorem ggX6_turned_X6_strokeOn : GoodIn wsX6_turned wsX6_strokeOn := goodIn_r _ [13, 3, 14, 2, 4, 15, 16, 8, 17, 18, 19, 20, 21, 22, 23, 24, 25, 26, 27, 28, 29, 30, 31, 32, 33, 34, 35, 36, 37, 38, 39, 40, 41] (by decide +kernel) (by decide +kernel)
set_option maxRecDepth 20000 in
theorem gX6_turned_X6_strokeOn : GoodIn wsX6_turned (wsV RX6 114 RX6 yX6_strokeOn wsX6_strokeOn) := goodIn_app (goodIn_of _ (by decide +kernel)) ggX6_turned_X6_strokeOn
theorem dX6_turned_0 : decode cX6_turned 0 = .ok (.iconst 0, 1) := by decide +kernel
theorem dX6_turned_1 : decode cX6_turned 1 = .ok (.istore_n 2, 1) := by decide +kernel
theorem dX6_turned_2 : decode cX6_turned 2 = .ok (.iconst 0, 1) := by decide +kernel
theorem dX6_turned_3 : decode cX6_turned 3 = .ok (.istore_n 3, 1) := by decide +kernel
theorem dX6_turned_4 : decode cX6_turned 4 = .ok (.iload_n 3, 1) := by decide +kernel
theorem dX6_turned_5 : decode cX6_turned 5 = .ok (.aload_n 0, 1) := by decide +kernel
theorem dX6_turned_6 : decode cX6_turned 6 = .ok (.getfield 35, 3) := by decide +kernel
theorem dX6_turned_9 : decode cX6_turned 9 = .ok (.iload_n 1, 1) := by decide +kernel
theorem dX6_turned_10 : decode cX6_turned 10 = .ok (.iaload, 1) := by decide +kernel
theorem dX6_turned_11 : decode cX6_turned 11 = .ok (.if_icmp .ge 73, 3) := by decide +kernel
theorem dX6_turned_14 : decode cX6_turned 14 = .ok (.aload_n 0, 1) := by decide +kernel
theorem dX6_turned_15 : decode cX6_turned 15 = .ok (.iload_n 1, 1) := by decide +kernel
theorem dX6_turned_16 : decode cX6_turned 16 = .ok (.iload_n 3, 1) := by decide +kernel
theorem dX6_turned_17 : decode cX6_turned 17 = .ok (.invokevirtual 118, 3) := by decide +kernel
theorem dX6_turned_20 : decode cX6_turned 20 = .ok (.ifCond .eq 42, 3) := by decide +kernel
theorem dX6_turned_23 : decode cX6_turned 23 = .ok (.aload_n 0, 1) := by decide +kernel
theorem dX6_turned_24 : decode cX6_turned 24 = .ok (.getfield 13, 3) := by decide +kernel
theorem dX6_turned_27 : decode cX6_turned 27 = .ok (.bipush 6, 2) := by decide +kernel
theorem dX6_turned_29 : decode cX6_turned 29 = .ok (.aload_n 0, 1) := by decide +kernel
theorem dX6_turned_30 : decode cX6_turned 30 = .ok (.getfield 41, 3) := by decide +kernel
theorem dX6_turned_33 : decode cX6_turned 33 = .ok (.iload_n 1, 1) := by decide +kernel
theorem dX6_turned_34 : decode cX6_turned 34 = .ok (.iaload, 1) := by decide +kernel
theorem dX6_turned_35 : decode cX6_turned 35 = .ok (.imul, 1) := by decide +kernel
theorem dX6_turned_36 : decode cX6_turned 36 = .ok (.aload_n 0, 1) := by decide +kernel
theorem dX6_turned_37 : decode cX6_turned 37 = .ok (.iload_n 1, 1) := by decide +kernel
theorem dX6_turned_38 : decode cX6_turned 38 = .ok (.iload_n 3, 1) := by decide +kernel
theorem dX6_turned_39 : decode cX6_turned 39 = .ok (.invokevirtual 114, 3) := by decide +kernel
theorem dX6_turned_42 : decode cX6_turned 42 = .ok (.iadd, 1) := by decide +kernel
theorem dX6_turned_43 : decode cX6_turned 43 = .ok (.iaload, 1) := by decide +kernel
theorem dX6_turned_44 : decode cX6_turned 44 = .ok (.aload_n 0, 1) := by decide +kernel
theorem dX6_turned_45 : decode cX6_turned 45 = .ok (.getfield 32, 3) := by decide +kernel
theorem dX6_turned_48 : decode cX6_turned 48 = .ok (.bipush 8, 2) := by decide +kernel
theorem dX6_turned_50 : decode cX6_turned 50 = .ok (.iload_n 1, 1) := by decide +kernel
theorem dX6_turned_51 : decode cX6_turned 51 = .ok (.imul, 1) := by decide +kernel
theorem dX6_turned_52 : decode cX6_turned 52 = .ok (.iload_n 3, 1) := by decide +kernel
theorem dX6_turned_53 : decode cX6_turned 53 = .ok (.iadd, 1) := by decide +kernel
theorem dX6_turned_54 : decode cX6_turned 54 = .ok (.iaload, 1) := by decide +kernel
theorem dX6_turned_55 : decode cX6_turned 55 = .ok (.if_icmp .eq 7, 3) := by decide +kernel
theorem dX6_turned_58 : decode cX6_turned 58 = .ok (.iconst 1, 1) := by decide +kernel
theorem dX6_turned_59 : decode cX6_turned 59 = .ok (.goto 4, 3) := by decide +kernel
theorem dX6_turned_62 : decode cX6_turned 62 = .ok (.iconst 0, 1) := by decide +kernel
theorem dX6_turned_63 : decode cX6_turned 63 = .ok (.istore 4, 2) := by decide +kernel
theorem dX6_turned_65 : decode cX6_turned 65 = .ok (.iload_n 2, 1) := by decide +kernel
theorem dX6_turned_66 : decode cX6_turned 66 = .ok (.iload 4, 2) := by decide +kernel
theorem dX6_turned_68 : decode cX6_turned 68 = .ok (.ifCond .eq 7, 3) := by decide +kernel
theorem dX6_turned_71 : decode cX6_turned 71 = .ok (.iconst 1, 1) := by decide +kernel
theorem dX6_turned_72 : decode cX6_turned 72 = .ok (.goto 4, 3) := by decide +kernel
theorem dX6_turned_75 : decode cX6_turned 75 = .ok (.iconst 0, 1) := by decide +kernel
theorem dX6_turned_76 : decode cX6_turned 76 = .ok (.iadd, 1) := by decide +kernel
theorem dX6_turned_77 : decode cX6_turned 77 = .ok (.istore_n 2, 1) := by decide +kernel
theorem dX6_turned_78 : decode cX6_turned 78 = .ok (.iinc 3 1, 3) := by decide +kernel
theorem dX6_turned_81 : decode cX6_turned 81 = .ok (.goto (-77), 3) := by decide +kernel
theorem dX6_turned_84 : decode cX6_turned 84 = .ok (.iload_n 2, 1) := by decide +kernel
theorem dX6_turned_85 : decode cX6_turned 85 = .ok (.ireturn, 1) := by decide +kernel
set_option maxRecDepth 20000 in
theorem ggX6_inOrder_X6_counts : GoodIn wsX6_inOrder wsX6_counts := goodIn_r _ [7, 8, 9, 10, 6, 11, 12, 13, 14, 15, 16, 17, 18, 19, 20, 21, 22, 23, 24, 25, 26, 27, 28, 29, 30, 31, 32, 33, 34, 35, 36, 37, 38, 39, 40, 41, 42] (by decide +kernel) (by decide +kernel)
set_option maxRecDepth 20000 in
theorem gX6_inOrder_X6_counts : GoodIn wsX6_inOrder (wsV RX6 118 RX6 yX6_counts wsX6_counts) := goodIn_app (goodIn_of _ (by decide +kernel)) ggX6_inOrder_X6_counts
set_option maxRecDepth 20000 in
theorem ggX6_inOrder_X6_strokeOn : GoodIn wsX6_inOrder wsX6_strokeOn := goodIn_r _ [11, 12, 13, 14, 15, 16, 17, 6, 18, 19, 20, 21, 22, 23, 24, 25, 26, 27, 28, 29, 30, 31, 32, 33, 34, 35, 36, 37, 38, 39, 40, 41, 42] (by decide +kernel) (by decide +kernel)
set_option maxRecDepth 20000 in
theorem gX6_inOrder_X6_strokeOn : GoodIn wsX6_inOrder (wsV RX6 114 RX6 yX6_strokeOn wsX6_strokeOn) := goodIn_app (goodIn_of _ (by decide +kernel)) ggX6_inOrder_X6_strokeOn
theorem dX6_inOrder_0 : decode cX6_inOrder 0 = .ok (.iconst 0, 1) := by decide +kernel
theorem dX6_inOrder_1 : decode cX6_inOrder 1 = .ok (.istore_n 2, 1) := by decide +kernel
theorem dX6_inOrder_2 : decode cX6_inOrder 2 = .ok (.iconst 0, 1) := by decide +kernel
theorem dX6_inOrder_3 : decode cX6_inOrder 3 = .ok (.istore_n 3, 1) := by decide +kernel
theorem dX6_inOrder_4 : decode cX6_inOrder 4 = .ok (.iload_n 3, 1) := by decide +kernel
theorem dX6_inOrder_5 : decode cX6_inOrder 5 = .ok (.aload_n 0, 1) := by decide +kernel
theorem dX6_inOrder_6 : decode cX6_inOrder 6 = .ok (.getfield 35, 3) := by decide +kernel
theorem dX6_inOrder_9 : decode cX6_inOrder 9 = .ok (.iload_n 1, 1) := by decide +kernel
theorem dX6_inOrder_10 : decode cX6_inOrder 10 = .ok (.iaload, 1) := by decide +kernel
theorem dX6_inOrder_11 : decode cX6_inOrder 11 = .ok (.if_icmp .ge 152, 3) := by decide +kernel
theorem dX6_inOrder_14 : decode cX6_inOrder 14 = .ok (.aload_n 0, 1) := by decide +kernel
theorem dX6_inOrder_15 : decode cX6_inOrder 15 = .ok (.getfield 65, 3) := by decide +kernel
theorem dX6_inOrder_18 : decode cX6_inOrder 18 = .ok (.iload_n 3, 1) := by decide +kernel
theorem dX6_inOrder_19 : decode cX6_inOrder 19 = .ok (.aload_n 0, 1) := by decide +kernel
theorem dX6_inOrder_20 : decode cX6_inOrder 20 = .ok (.iload_n 1, 1) := by decide +kernel
theorem dX6_inOrder_21 : decode cX6_inOrder 21 = .ok (.iload_n 3, 1) := by decide +kernel
theorem dX6_inOrder_22 : decode cX6_inOrder 22 = .ok (.invokevirtual 118, 3) := by decide +kernel
theorem dX6_inOrder_25 : decode cX6_inOrder 25 = .ok (.ifCond .eq 7, 3) := by decide +kernel
theorem dX6_inOrder_28 : decode cX6_inOrder 28 = .ok (.iconst 1, 1) := by decide +kernel
theorem dX6_inOrder_29 : decode cX6_inOrder 29 = .ok (.goto 4, 3) := by decide +kernel
theorem dX6_inOrder_32 : decode cX6_inOrder 32 = .ok (.iconst 0, 1) := by decide +kernel
theorem dX6_inOrder_33 : decode cX6_inOrder 33 = .ok (.iastore, 1) := by decide +kernel
theorem dX6_inOrder_34 : decode cX6_inOrder 34 = .ok (.iconst 0, 1) := by decide +kernel
theorem dX6_inOrder_35 : decode cX6_inOrder 35 = .ok (.istore 4, 2) := by decide +kernel
theorem dX6_inOrder_37 : decode cX6_inOrder 37 = .ok (.iload 4, 2) := by decide +kernel
theorem dX6_inOrder_39 : decode cX6_inOrder 39 = .ok (.iload_n 3, 1) := by decide +kernel
theorem dX6_inOrder_40 : decode cX6_inOrder 40 = .ok (.if_icmp .ge 96, 3) := by decide +kernel
theorem dX6_inOrder_43 : decode cX6_inOrder 43 = .ok (.aload_n 0, 1) := by decide +kernel
theorem dX6_inOrder_44 : decode cX6_inOrder 44 = .ok (.getfield 65, 3) := by decide +kernel
theorem dX6_inOrder_47 : decode cX6_inOrder 47 = .ok (.iload_n 3, 1) := by decide +kernel
theorem dX6_inOrder_48 : decode cX6_inOrder 48 = .ok (.iaload, 1) := by decide +kernel
theorem dX6_inOrder_49 : decode cX6_inOrder 49 = .ok (.ifCond .le 87, 3) := by decide +kernel
theorem dX6_inOrder_52 : decode cX6_inOrder 52 = .ok (.aload_n 0, 1) := by decide +kernel
theorem dX6_inOrder_53 : decode cX6_inOrder 53 = .ok (.getfield 65, 3) := by decide +kernel
theorem dX6_inOrder_56 : decode cX6_inOrder 56 = .ok (.iload 4, 2) := by decide +kernel
theorem dX6_inOrder_58 : decode cX6_inOrder 58 = .ok (.iaload, 1) := by decide +kernel
theorem dX6_inOrder_59 : decode cX6_inOrder 59 = .ok (.ifCond .le 23, 3) := by decide +kernel
theorem dX6_inOrder_62 : decode cX6_inOrder 62 = .ok (.aload_n 0, 1) := by decide +kernel
theorem dX6_inOrder_63 : decode cX6_inOrder 63 = .ok (.iload_n 1, 1) := by decide +kernel
theorem dX6_inOrder_64 : decode cX6_inOrder 64 = .ok (.iload 4, 2) := by decide +kernel
theorem dX6_inOrder_66 : decode cX6_inOrder 66 = .ok (.invokevirtual 114, 3) := by decide +kernel
theorem dX6_inOrder_69 : decode cX6_inOrder 69 = .ok (.aload_n 0, 1) := by decide +kernel
theorem dX6_inOrder_70 : decode cX6_inOrder 70 = .ok (.iload_n 1, 1) := by decide +kernel
theorem dX6_inOrder_71 : decode cX6_inOrder 71 = .ok (.iload_n 3, 1) := by decide +kernel
theorem dX6_inOrder_72 : decode cX6_inOrder 72 = .ok (.invokevirtual 114, 3) := by decide +kernel
theorem dX6_inOrder_75 : decode cX6_inOrder 75 = .ok (.if_icmp .ge 7, 3) := by decide +kernel
theorem dX6_inOrder_78 : decode cX6_inOrder 78 = .ok (.iconst 1, 1) := by decide +kernel
theorem dX6_inOrder_79 : decode cX6_inOrder 79 = .ok (.goto 4, 3) := by decide +kernel
theorem dX6_inOrder_82 : decode cX6_inOrder 82 = .ok (.iconst 0, 1) := by decide +kernel
theorem dX6_inOrder_83 : decode cX6_inOrder 83 = .ok (.istore 5, 2) := by decide +kernel
theorem dX6_inOrder_85 : decode cX6_inOrder 85 = .ok (.aload_n 0, 1) := by decide +kernel
theorem dX6_inOrder_86 : decode cX6_inOrder 86 = .ok (.getfield 65, 3) := by decide +kernel
theorem dX6_inOrder_89 : decode cX6_inOrder 89 = .ok (.iload_n 3, 1) := by decide +kernel
theorem dX6_inOrder_90 : decode cX6_inOrder 90 = .ok (.iload 5, 2) := by decide +kernel
theorem dX6_inOrder_92 : decode cX6_inOrder 92 = .ok (.ifCond .eq 31, 3) := by decide +kernel
theorem dX6_inOrder_95 : decode cX6_inOrder 95 = .ok (.aload_n 0, 1) := by decide +kernel
theorem dX6_inOrder_96 : decode cX6_inOrder 96 = .ok (.getfield 65, 3) := by decide +kernel
theorem dX6_inOrder_99 : decode cX6_inOrder 99 = .ok (.iload 4, 2) := by decide +kernel
theorem dX6_inOrder_101 : decode cX6_inOrder 101 = .ok (.iaload, 1) := by decide +kernel
theorem dX6_inOrder_102 : decode cX6_inOrder 102 = .ok (.aload_n 0, 1) := by decide +kernel
theorem dX6_inOrder_103 : decode cX6_inOrder 103 = .ok (.getfield 65, 3) := by decide +kernel
theorem dX6_inOrder_106 : decode cX6_inOrder 106 = .ok (.iload_n 3, 1) := by decide +kernel
theorem dX6_inOrder_107 : decode cX6_inOrder 107 = .ok (.iaload, 1) := by decide +kernel
theorem dX6_inOrder_108 : decode cX6_inOrder 108 = .ok (.if_icmp .lt 15, 3) := by decide +kernel
theorem dX6_inOrder_111 : decode cX6_inOrder 111 = .ok (.aload_n 0, 1) := by decide +kernel
theorem dX6_inOrder_112 : decode cX6_inOrder 112 = .ok (.getfield 65, 3) := by decide +kernel
theorem dX6_inOrder_115 : decode cX6_inOrder 115 = .ok (.iload 4, 2) := by decide +kernel
theorem dX6_inOrder_117 : decode cX6_inOrder 117 = .ok (.iaload, 1) := by decide +kernel
theorem dX6_inOrder_118 : decode cX6_inOrder 118 = .ok (.iconst 1, 1) := by decide +kernel
theorem dX6_inOrder_119 : decode cX6_inOrder 119 = .ok (.iadd, 1) := by decide +kernel
theorem dX6_inOrder_120 : decode cX6_inOrder 120 = .ok (.goto 9, 3) := by decide +kernel
theorem dX6_inOrder_123 : decode cX6_inOrder 123 = .ok (.aload_n 0, 1) := by decide +kernel
theorem dX6_inOrder_124 : decode cX6_inOrder 124 = .ok (.getfield 65, 3) := by decide +kernel
theorem dX6_inOrder_127 : decode cX6_inOrder 127 = .ok (.iload_n 3, 1) := by decide +kernel
theorem dX6_inOrder_128 : decode cX6_inOrder 128 = .ok (.iaload, 1) := by decide +kernel
theorem dX6_inOrder_129 : decode cX6_inOrder 129 = .ok (.iastore, 1) := by decide +kernel
theorem dX6_inOrder_130 : decode cX6_inOrder 130 = .ok (.iinc 4 1, 3) := by decide +kernel
theorem dX6_inOrder_133 : decode cX6_inOrder 133 = .ok (.goto (-96), 3) := by decide +kernel
theorem dX6_inOrder_136 : decode cX6_inOrder 136 = .ok (.aload_n 0, 1) := by decide +kernel
theorem dX6_inOrder_137 : decode cX6_inOrder 137 = .ok (.getfield 65, 3) := by decide +kernel
theorem dX6_inOrder_140 : decode cX6_inOrder 140 = .ok (.iload_n 3, 1) := by decide +kernel
theorem dX6_inOrder_141 : decode cX6_inOrder 141 = .ok (.iaload, 1) := by decide +kernel
theorem dX6_inOrder_142 : decode cX6_inOrder 142 = .ok (.iload_n 2, 1) := by decide +kernel
theorem dX6_inOrder_143 : decode cX6_inOrder 143 = .ok (.if_icmp .le 12, 3) := by decide +kernel
theorem dX6_inOrder_146 : decode cX6_inOrder 146 = .ok (.aload_n 0, 1) := by decide +kernel
theorem dX6_inOrder_147 : decode cX6_inOrder 147 = .ok (.getfield 65, 3) := by decide +kernel
theorem dX6_inOrder_150 : decode cX6_inOrder 150 = .ok (.iload_n 3, 1) := by decide +kernel
theorem dX6_inOrder_151 : decode cX6_inOrder 151 = .ok (.iaload, 1) := by decide +kernel
theorem dX6_inOrder_152 : decode cX6_inOrder 152 = .ok (.goto 4, 3) := by decide +kernel
theorem dX6_inOrder_155 : decode cX6_inOrder 155 = .ok (.iload_n 2, 1) := by decide +kernel
theorem dX6_inOrder_156 : decode cX6_inOrder 156 = .ok (.istore_n 2, 1) := by decide +kernel
theorem dX6_inOrder_157 : decode cX6_inOrder 157 = .ok (.iinc 3 1, 3) := by decide +kernel
theorem dX6_inOrder_160 : decode cX6_inOrder 160 = .ok (.goto (-156), 3) := by decide +kernel
theorem dX6_inOrder_163 : decode cX6_inOrder 163 = .ok (.iload_n 2, 1) := by decide +kernel
theorem dX6_inOrder_164 : decode cX6_inOrder 164 = .ok (.ireturn, 1) := by decide +kernel
set_option maxRecDepth 20000 in
theorem ggX6_slipsOf_X6_counting : GoodIn wsX6_slipsOf wsX6_counting := goodIn_r _ [9, 3, 10, 11, 12, 8, 13, 14, 15, 16, 17, 2, 1, 18, 19, 20, 21, 22, 32, 33, 34, 35, 36, 37, 38, 39, 40, 41, 42, 43, 44, 45, 46, 47, 48, 49, 50, 51, 52, 53, 54, 55] (by decide +kernel) (by decide +kernel)
set_option maxRecDepth 20000 in
theorem gX6_slipsOf_X6_counting : GoodIn wsX6_slipsOf (wsV RX6 121 RX6 yX6_counting wsX6_counting) := goodIn_app (goodIn_of _ (by decide +kernel)) ggX6_slipsOf_X6_counting
set_option maxRecDepth 20000 in
theorem ggX6_slipsOf_X6_turned : GoodIn wsX6_slipsOf wsX6_turned := goodIn_r _ [26, 3, 18, 2, 19, 10, 11, 12, 8, 13, 14, 15, 16, 17, 1, 20, 21, 22, 32, 33, 34, 35, 36, 37, 38, 39, 40, 41, 42, 43, 44, 45, 46, 47, 48, 49, 50, 51, 52, 53, 54, 55] (by decide +kernel) (by decide +kernel)
set_option maxRecDepth 20000 in
theorem gX6_slipsOf_X6_turned : GoodIn wsX6_slipsOf (wsV RX6 124 RX6 yX6_turned wsX6_turned) := goodIn_app (goodIn_of _ (by decide +kernel)) ggX6_slipsOf_X6_turned
set_option maxRecDepth 20000 in
theorem ggX6_slipsOf_X6_inOrder : GoodIn wsX6_slipsOf wsX6_inOrder := goodIn_r _ [30, 3, 31, 10, 11, 12, 8, 13, 14, 15, 16, 17, 2, 1, 18, 19, 20, 21, 22, 32, 33, 34, 35, 36, 37, 38, 39, 40, 41, 42, 43, 44, 45, 46, 47, 48, 49, 50, 51, 52, 53, 54, 55] (by decide +kernel) (by decide +kernel)
set_option maxRecDepth 20000 in
theorem gX6_slipsOf_X6_inOrder : GoodIn wsX6_slipsOf (wsV RX6 127 RX6 yX6_inOrder wsX6_inOrder) := goodIn_app (goodIn_of _ (by decide +kernel)) ggX6_slipsOf_X6_inOrder
theorem dX6_slipsOf_0 : decode cX6_slipsOf 0 = .ok (.aload_n 0, 1) := by decide +kernel
theorem dX6_slipsOf_1 : decode cX6_slipsOf 1 = .ok (.iload_n 1, 1) := by decide +kernel
theorem dX6_slipsOf_2 : decode cX6_slipsOf 2 = .ok (.invokevirtual 121, 3) := by decide +kernel
theorem dX6_slipsOf_5 : decode cX6_slipsOf 5 = .ok (.istore_n 3, 1) := by decide +kernel
theorem dX6_slipsOf_6 : decode cX6_slipsOf 6 = .ok (.iload_n 2, 1) := by decide +kernel
theorem dX6_slipsOf_7 : decode cX6_slipsOf 7 = .ok (.tableswitch 66 0 3 #[29, 43, 52, 58], 29) := by decide +kernel
theorem dX6_slipsOf_36 : decode cX6_slipsOf 36 = .ok (.aload_n 0, 1) := by decide +kernel
theorem dX6_slipsOf_37 : decode cX6_slipsOf 37 = .ok (.getfield 16, 3) := by decide +kernel
theorem dX6_slipsOf_40 : decode cX6_slipsOf 40 = .ok (.aload_n 0, 1) := by decide +kernel
theorem dX6_slipsOf_41 : decode cX6_slipsOf 41 = .ok (.getfield 41, 3) := by decide +kernel
theorem dX6_slipsOf_44 : decode cX6_slipsOf 44 = .ok (.iload_n 1, 1) := by decide +kernel
theorem dX6_slipsOf_45 : decode cX6_slipsOf 45 = .ok (.iaload, 1) := by decide +kernel
theorem dX6_slipsOf_46 : decode cX6_slipsOf 46 = .ok (.iaload, 1) := by decide +kernel
theorem dX6_slipsOf_47 : decode cX6_slipsOf 47 = .ok (.iload_n 3, 1) := by decide +kernel
theorem dX6_slipsOf_48 : decode cX6_slipsOf 48 = .ok (.isub, 1) := by decide +kernel
theorem dX6_slipsOf_49 : decode cX6_slipsOf 49 = .ok (.ireturn, 1) := by decide +kernel
theorem dX6_slipsOf_50 : decode cX6_slipsOf 50 = .ok (.aload_n 0, 1) := by decide +kernel
theorem dX6_slipsOf_51 : decode cX6_slipsOf 51 = .ok (.getfield 35, 3) := by decide +kernel
theorem dX6_slipsOf_54 : decode cX6_slipsOf 54 = .ok (.iload_n 1, 1) := by decide +kernel
theorem dX6_slipsOf_55 : decode cX6_slipsOf 55 = .ok (.iaload, 1) := by decide +kernel
theorem dX6_slipsOf_56 : decode cX6_slipsOf 56 = .ok (.iload_n 3, 1) := by decide +kernel
theorem dX6_slipsOf_57 : decode cX6_slipsOf 57 = .ok (.isub, 1) := by decide +kernel
theorem dX6_slipsOf_58 : decode cX6_slipsOf 58 = .ok (.ireturn, 1) := by decide +kernel
theorem dX6_slipsOf_59 : decode cX6_slipsOf 59 = .ok (.aload_n 0, 1) := by decide +kernel
theorem dX6_slipsOf_60 : decode cX6_slipsOf 60 = .ok (.iload_n 1, 1) := by decide +kernel
theorem dX6_slipsOf_61 : decode cX6_slipsOf 61 = .ok (.invokevirtual 124, 3) := by decide +kernel
theorem dX6_slipsOf_64 : decode cX6_slipsOf 64 = .ok (.ireturn, 1) := by decide +kernel
theorem dX6_slipsOf_65 : decode cX6_slipsOf 65 = .ok (.iload_n 3, 1) := by decide +kernel
theorem dX6_slipsOf_66 : decode cX6_slipsOf 66 = .ok (.aload_n 0, 1) := by decide +kernel
theorem dX6_slipsOf_67 : decode cX6_slipsOf 67 = .ok (.iload_n 1, 1) := by decide +kernel
theorem dX6_slipsOf_68 : decode cX6_slipsOf 68 = .ok (.invokevirtual 127, 3) := by decide +kernel
theorem dX6_slipsOf_71 : decode cX6_slipsOf 71 = .ok (.isub, 1) := by decide +kernel
theorem dX6_slipsOf_72 : decode cX6_slipsOf 72 = .ok (.ireturn, 1) := by decide +kernel
theorem dX6_slipsOf_73 : decode cX6_slipsOf 73 = .ok (.aload_n 0, 1) := by decide +kernel
theorem dX6_slipsOf_74 : decode cX6_slipsOf 74 = .ok (.getfield 44, 3) := by decide +kernel
theorem dX6_slipsOf_77 : decode cX6_slipsOf 77 = .ok (.iload_n 1, 1) := by decide +kernel
theorem dX6_slipsOf_78 : decode cX6_slipsOf 78 = .ok (.baload, 1) := by decide +kernel
theorem dX6_slipsOf_79 : decode cX6_slipsOf 79 = .ok (.ifCond .eq 7, 3) := by decide +kernel
theorem dX6_slipsOf_82 : decode cX6_slipsOf 82 = .ok (.iconst 1, 1) := by decide +kernel
theorem dX6_slipsOf_83 : decode cX6_slipsOf 83 = .ok (.goto 4, 3) := by decide +kernel
theorem dX6_slipsOf_86 : decode cX6_slipsOf 86 = .ok (.iconst 0, 1) := by decide +kernel
theorem dX6_slipsOf_87 : decode cX6_slipsOf 87 = .ok (.ireturn, 1) := by decide +kernel
set_option maxRecDepth 20000 in
theorem ggX6_allSlips_X6_slipsOf : GoodIn wsX6_allSlips wsX6_slipsOf := goodIn_r _ [5, 6, 7, 8, 9, 10, 11, 12, 4, 13, 14, 15, 16, 17, 18, 19, 20, 21, 22, 23, 24, 25, 26, 27, 28, 29, 30, 31, 32, 33, 34, 35, 36, 37, 38, 39, 40, 41, 42, 43, 44, 45, 46, 47, 48, 49, 50, 51, 52, 53, 54, 55, 56, 57, 58, 59] (by decide +kernel) (by decide +kernel)
set_option maxRecDepth 20000 in
theorem gX6_allSlips_X6_slipsOf : GoodIn wsX6_allSlips (wsV RX6 130 RX6 yX6_slipsOf wsX6_slipsOf) := goodIn_app (goodIn_of _ (by decide +kernel)) ggX6_allSlips_X6_slipsOf
theorem dX6_allSlips_0 : decode cX6_allSlips 0 = .ok (.iconst 0, 1) := by decide +kernel
theorem dX6_allSlips_1 : decode cX6_allSlips 1 = .ok (.istore_n 2, 1) := by decide +kernel
theorem dX6_allSlips_2 : decode cX6_allSlips 2 = .ok (.iconst 0, 1) := by decide +kernel
theorem dX6_allSlips_3 : decode cX6_allSlips 3 = .ok (.istore_n 3, 1) := by decide +kernel
theorem dX6_allSlips_4 : decode cX6_allSlips 4 = .ok (.iload_n 3, 1) := by decide +kernel
theorem dX6_allSlips_5 : decode cX6_allSlips 5 = .ok (.iconst 4, 1) := by decide +kernel
theorem dX6_allSlips_6 : decode cX6_allSlips 6 = .ok (.if_icmp .gt 18, 3) := by decide +kernel
theorem dX6_allSlips_9 : decode cX6_allSlips 9 = .ok (.iload_n 2, 1) := by decide +kernel
theorem dX6_allSlips_10 : decode cX6_allSlips 10 = .ok (.aload_n 0, 1) := by decide +kernel
theorem dX6_allSlips_11 : decode cX6_allSlips 11 = .ok (.iload_n 1, 1) := by decide +kernel
theorem dX6_allSlips_12 : decode cX6_allSlips 12 = .ok (.iload_n 3, 1) := by decide +kernel
theorem dX6_allSlips_13 : decode cX6_allSlips 13 = .ok (.invokevirtual 130, 3) := by decide +kernel
theorem dX6_allSlips_16 : decode cX6_allSlips 16 = .ok (.iadd, 1) := by decide +kernel
theorem dX6_allSlips_17 : decode cX6_allSlips 17 = .ok (.istore_n 2, 1) := by decide +kernel
theorem dX6_allSlips_18 : decode cX6_allSlips 18 = .ok (.iinc 3 1, 3) := by decide +kernel
theorem dX6_allSlips_21 : decode cX6_allSlips 21 = .ok (.goto (-17), 3) := by decide +kernel
theorem dX6_allSlips_24 : decode cX6_allSlips 24 = .ok (.iload_n 2, 1) := by decide +kernel
theorem dX6_allSlips_25 : decode cX6_allSlips 25 = .ok (.ireturn, 1) := by decide +kernel
set_option maxRecDepth 20000 in
theorem ggX6_slips_X6_isScript : GoodIn wsX6_slips wsX6_isScript := goodIn_r _ [5, 6, 7, 8, 4, 9, 57, 58, 59, 60, 61, 62, 63, 64, 65, 66, 67, 68, 69, 70, 71, 72, 73, 74, 75, 76, 77, 78, 79, 80] (by decide +kernel) (by decide +kernel)
set_option maxRecDepth 20000 in
theorem gX6_slips_X6_isScript : GoodIn wsX6_slips (wsV RX6 133 RX6 yX6_isScript wsX6_isScript) := goodIn_app (goodIn_of _ (by decide +kernel)) ggX6_slips_X6_isScript
set_option maxRecDepth 20000 in
theorem ggX6_slips_X6_asks : GoodIn wsX6_slips wsX6_asks := goodIn_r _ [13, 14, 57, 58, 59, 60, 61, 62, 63, 64, 65, 66, 67, 68, 69, 70, 71, 72, 73, 74, 75, 76, 77, 78, 79, 80] (by decide +kernel) (by decide +kernel)
set_option maxRecDepth 20000 in
theorem gX6_slips_X6_asks : GoodIn wsX6_slips (wsV RX6 82 RX6 yX6_asks wsX6_asks) := goodIn_app (goodIn_of _ (by decide +kernel)) ggX6_slips_X6_asks
set_option maxRecDepth 20000 in
theorem ggX6_slips_X6_in : GoodIn wsX6_slips wsX6_in := goodIn_r _ [9] (by decide +kernel) (by decide +kernel)
set_option maxRecDepth 20000 in
theorem gX6_slips_X6_in : GoodIn wsX6_slips (va_wsS RX6 78 yX6_in wsX6_in) := goodIn_app (goodIn_of _ (by decide +kernel)) ggX6_slips_X6_in
set_option maxRecDepth 20000 in
theorem ggX6_slips_X6_fails : GoodIn wsX6_slips wsX6_fails := goodIn_r _ [18, 14, 57, 58, 59, 60, 61, 62, 63, 64, 65, 66, 67, 68, 69, 70, 71, 72, 73, 74, 75, 76, 77, 78, 79, 80] (by decide +kernel) (by decide +kernel)
set_option maxRecDepth 20000 in
theorem gX6_slips_X6_fails : GoodIn wsX6_slips (wsV RX6 86 RX6 yX6_fails wsX6_fails) := goodIn_app (goodIn_of _ (by decide +kernel)) ggX6_slips_X6_fails
set_option maxRecDepth 20000 in
theorem ggX6_slips_X6_allSlips : GoodIn wsX6_slips wsX6_allSlips := goodIn_r _ [22, 23, 24, 25, 4, 26, 27, 28, 29, 30, 31, 32, 33, 34, 35, 36, 37, 38, 39, 40, 41, 42, 43, 44, 45, 46, 47, 48, 49, 50, 51, 52, 53, 54, 55, 56, 57, 58, 59, 60, 61, 62, 63, 64, 65, 66, 67, 68, 69, 70, 71, 72, 73, 74, 75, 76, 77, 78, 79, 80] (by decide +kernel) (by decide +kernel)
set_option maxRecDepth 20000 in
theorem gX6_slips_X6_allSlips : GoodIn wsX6_slips (wsV RX6 136 RX6 yX6_allSlips wsX6_allSlips) := goodIn_app (goodIn_of _ (by decide +kernel)) ggX6_slips_X6_allSlips
set_option maxRecDepth 20000 in
theorem ggX6_slips_X6_slipsOf : GoodIn wsX6_slips wsX6_slipsOf := goodIn_r _ [26, 27, 28, 29, 30, 31, 32, 33, 4, 34, 35, 36, 37, 38, 39, 40, 41, 42, 43, 44, 45, 46, 47, 48, 49, 50, 51, 52, 53, 54, 55, 56, 57, 58, 59, 60, 61, 62, 63, 64, 65, 66, 67, 68, 69, 70, 71, 72, 73, 74, 75, 76, 77, 78, 79, 80] (by decide +kernel) (by decide +kernel)
set_option maxRecDepth 20000 in
theorem gX6_slips_X6_slipsOf : GoodIn wsX6_slips (wsV RX6 130 RX6 yX6_slipsOf wsX6_slipsOf) := goodIn_app (goodIn_of _ (by decide +kernel)) ggX6_slips_X6_slipsOf
theorem dX6_slips_0 : decode cX6_slips 0 = .ok (.aload_n 0, 1) := by decide +kernel
theorem dX6_slips_1 : decode cX6_slips 1 = .ok (.aload_n 0, 1) := by decide +kernel
theorem dX6_slips_2 : decode cX6_slips 2 = .ok (.iload_n 1, 1) := by decide +kernel
theorem dX6_slips_3 : decode cX6_slips 3 = .ok (.invokevirtual 133, 3) := by decide +kernel
theorem dX6_slips_6 : decode cX6_slips 6 = .ok (.invokevirtual 82, 3) := by decide +kernel
theorem dX6_slips_9 : decode cX6_slips 9 = .ok (.ifCond .ne 5, 3) := by decide +kernel
theorem dX6_slips_12 : decode cX6_slips 12 = .ok (.iconst 0, 1) := by decide +kernel
theorem dX6_slips_13 : decode cX6_slips 13 = .ok (.ireturn, 1) := by decide +kernel
theorem dX6_slips_14 : decode cX6_slips 14 = .ok (.iload_n 2, 1) := by decide +kernel
theorem dX6_slips_15 : decode cX6_slips 15 = .ok (.iconst 0, 1) := by decide +kernel
theorem dX6_slips_16 : decode cX6_slips 16 = .ok (.iconst 5, 1) := by decide +kernel
theorem dX6_slips_17 : decode cX6_slips 17 = .ok (.invokestatic 78, 3) := by decide +kernel
theorem dX6_slips_20 : decode cX6_slips 20 = .ok (.ifCond .ne 9, 3) := by decide +kernel
theorem dX6_slips_23 : decode cX6_slips 23 = .ok (.aload_n 0, 1) := by decide +kernel
theorem dX6_slips_24 : decode cX6_slips 24 = .ok (.iconst 2, 1) := by decide +kernel
theorem dX6_slips_25 : decode cX6_slips 25 = .ok (.invokevirtual 86, 3) := by decide +kernel
theorem dX6_slips_28 : decode cX6_slips 28 = .ok (.ireturn, 1) := by decide +kernel
theorem dX6_slips_29 : decode cX6_slips 29 = .ok (.iload_n 2, 1) := by decide +kernel
theorem dX6_slips_30 : decode cX6_slips 30 = .ok (.iconst 4, 1) := by decide +kernel
theorem dX6_slips_31 : decode cX6_slips 31 = .ok (.if_icmp .le 11, 3) := by decide +kernel
theorem dX6_slips_34 : decode cX6_slips 34 = .ok (.aload_n 0, 1) := by decide +kernel
theorem dX6_slips_35 : decode cX6_slips 35 = .ok (.iload_n 1, 1) := by decide +kernel
theorem dX6_slips_36 : decode cX6_slips 36 = .ok (.invokevirtual 136, 3) := by decide +kernel
theorem dX6_slips_39 : decode cX6_slips 39 = .ok (.goto 9, 3) := by decide +kernel
theorem dX6_slips_42 : decode cX6_slips 42 = .ok (.aload_n 0, 1) := by decide +kernel
theorem dX6_slips_43 : decode cX6_slips 43 = .ok (.iload_n 1, 1) := by decide +kernel
theorem dX6_slips_44 : decode cX6_slips 44 = .ok (.iload_n 2, 1) := by decide +kernel
theorem dX6_slips_45 : decode cX6_slips 45 = .ok (.invokevirtual 130, 3) := by decide +kernel
theorem dX6_slips_48 : decode cX6_slips 48 = .ok (.ireturn, 1) := by decide +kernel
set_option maxRecDepth 20000 in
theorem ggX6_orderAnew_X6_isScript : GoodIn wsX6_orderAnew wsX6_isScript := goodIn_r _ [5, 6, 7, 8, 4, 9, 49, 50, 51, 52, 53, 54, 55, 56, 57, 58, 59, 60, 61, 62, 63, 64, 65, 66, 67, 68, 69, 70, 71, 72] (by decide +kernel) (by decide +kernel)
set_option maxRecDepth 20000 in
theorem gX6_orderAnew_X6_isScript : GoodIn wsX6_orderAnew (wsV RX6 133 RX6 yX6_isScript wsX6_isScript) := goodIn_app (goodIn_of _ (by decide +kernel)) ggX6_orderAnew_X6_isScript
set_option maxRecDepth 20000 in
theorem ggX6_orderAnew_X6_asks : GoodIn wsX6_orderAnew wsX6_asks := goodIn_r _ [13, 14, 49, 50, 51, 52, 53, 54, 55, 56, 57, 58, 59, 60, 61, 62, 63, 64, 65, 66, 67, 68, 69, 70, 71, 72] (by decide +kernel) (by decide +kernel)
set_option maxRecDepth 20000 in
theorem gX6_orderAnew_X6_asks : GoodIn wsX6_orderAnew (wsV RX6 82 RX6 yX6_asks wsX6_asks) := goodIn_app (goodIn_of _ (by decide +kernel)) ggX6_orderAnew_X6_asks
set_option maxRecDepth 20000 in
theorem ggX6_orderAnew_X6_slipsOf : GoodIn wsX6_orderAnew wsX6_slipsOf := goodIn_r _ [18, 19, 20, 21, 22, 23, 24, 25, 4, 26, 27, 28, 29, 30, 31, 32, 33, 34, 35, 36, 37, 38, 39, 40, 41, 42, 43, 44, 45, 46, 47, 48, 49, 50, 51, 52, 53, 54, 55, 56, 57, 58, 59, 60, 61, 62, 63, 64, 65, 66, 67, 68, 69, 70, 71, 72] (by decide +kernel) (by decide +kernel)
set_option maxRecDepth 20000 in
theorem gX6_orderAnew_X6_slipsOf : GoodIn wsX6_orderAnew (wsV RX6 130 RX6 yX6_slipsOf wsX6_slipsOf) := goodIn_app (goodIn_of _ (by decide +kernel)) ggX6_orderAnew_X6_slipsOf
theorem dX6_orderAnew_0 : decode cX6_orderAnew 0 = .ok (.aload_n 0, 1) := by decide +kernel
theorem dX6_orderAnew_1 : decode cX6_orderAnew 1 = .ok (.aload_n 0, 1) := by decide +kernel
theorem dX6_orderAnew_2 : decode cX6_orderAnew 2 = .ok (.iload_n 1, 1) := by decide +kernel
theorem dX6_orderAnew_3 : decode cX6_orderAnew 3 = .ok (.invokevirtual 133, 3) := by decide +kernel
theorem dX6_orderAnew_6 : decode cX6_orderAnew 6 = .ok (.invokevirtual 82, 3) := by decide +kernel
theorem dX6_orderAnew_9 : decode cX6_orderAnew 9 = .ok (.ifCond .eq 12, 3) := by decide +kernel
theorem dX6_orderAnew_12 : decode cX6_orderAnew 12 = .ok (.aload_n 0, 1) := by decide +kernel
theorem dX6_orderAnew_13 : decode cX6_orderAnew 13 = .ok (.iload_n 1, 1) := by decide +kernel
theorem dX6_orderAnew_14 : decode cX6_orderAnew 14 = .ok (.iconst 3, 1) := by decide +kernel
theorem dX6_orderAnew_15 : decode cX6_orderAnew 15 = .ok (.invokevirtual 130, 3) := by decide +kernel
theorem dX6_orderAnew_18 : decode cX6_orderAnew 18 = .ok (.goto 4, 3) := by decide +kernel
theorem dX6_orderAnew_21 : decode cX6_orderAnew 21 = .ok (.iconst 0, 1) := by decide +kernel
theorem dX6_orderAnew_22 : decode cX6_orderAnew 22 = .ok (.ireturn, 1) := by decide +kernel
theorem dX6_lacking_0 : decode cX6_lacking 0 = .ok (.aload_n 0, 1) := by decide +kernel
theorem dX6_lacking_1 : decode cX6_lacking 1 = .ok (.getfield 53, 3) := by decide +kernel
theorem dX6_lacking_4 : decode cX6_lacking 4 = .ok (.iload_n 1, 1) := by decide +kernel
theorem dX6_lacking_5 : decode cX6_lacking 5 = .ok (.iaload, 1) := by decide +kernel
theorem dX6_lacking_6 : decode cX6_lacking 6 = .ok (.istore_n 2, 1) := by decide +kernel
theorem dX6_lacking_7 : decode cX6_lacking 7 = .ok (.iload_n 2, 1) := by decide +kernel
theorem dX6_lacking_8 : decode cX6_lacking 8 = .ok (.iconst 2, 1) := by decide +kernel
theorem dX6_lacking_9 : decode cX6_lacking 9 = .ok (.if_icmp .ge 7, 3) := by decide +kernel
theorem dX6_lacking_12 : decode cX6_lacking 12 = .ok (.iconst 2, 1) := by decide +kernel
theorem dX6_lacking_13 : decode cX6_lacking 13 = .ok (.iload_n 2, 1) := by decide +kernel
theorem dX6_lacking_14 : decode cX6_lacking 14 = .ok (.isub, 1) := by decide +kernel
theorem dX6_lacking_15 : decode cX6_lacking 15 = .ok (.ireturn, 1) := by decide +kernel
theorem dX6_lacking_16 : decode cX6_lacking 16 = .ok (.aload_n 0, 1) := by decide +kernel
theorem dX6_lacking_17 : decode cX6_lacking 17 = .ok (.getfield 47, 3) := by decide +kernel
theorem dX6_lacking_20 : decode cX6_lacking 20 = .ok (.iconst 3, 1) := by decide +kernel
theorem dX6_lacking_21 : decode cX6_lacking 21 = .ok (.iload_n 1, 1) := by decide +kernel
theorem dX6_lacking_22 : decode cX6_lacking 22 = .ok (.imul, 1) := by decide +kernel
theorem dX6_lacking_23 : decode cX6_lacking 23 = .ok (.iaload, 1) := by decide +kernel
theorem dX6_lacking_24 : decode cX6_lacking 24 = .ok (.aload_n 0, 1) := by decide +kernel
theorem dX6_lacking_25 : decode cX6_lacking 25 = .ok (.getfield 47, 3) := by decide +kernel
theorem dX6_lacking_28 : decode cX6_lacking 28 = .ok (.iconst 3, 1) := by decide +kernel
theorem dX6_lacking_29 : decode cX6_lacking 29 = .ok (.iload_n 1, 1) := by decide +kernel
theorem dX6_lacking_30 : decode cX6_lacking 30 = .ok (.imul, 1) := by decide +kernel
theorem dX6_lacking_31 : decode cX6_lacking 31 = .ok (.iconst 1, 1) := by decide +kernel
theorem dX6_lacking_32 : decode cX6_lacking 32 = .ok (.iadd, 1) := by decide +kernel
theorem dX6_lacking_33 : decode cX6_lacking 33 = .ok (.iaload, 1) := by decide +kernel
theorem dX6_lacking_34 : decode cX6_lacking 34 = .ok (.isub, 1) := by decide +kernel
theorem dX6_lacking_35 : decode cX6_lacking 35 = .ok (.istore_n 3, 1) := by decide +kernel
theorem dX6_lacking_36 : decode cX6_lacking 36 = .ok (.iload_n 2, 1) := by decide +kernel
theorem dX6_lacking_37 : decode cX6_lacking 37 = .ok (.iconst 2, 1) := by decide +kernel
theorem dX6_lacking_38 : decode cX6_lacking 38 = .ok (.if_icmp .ne 18, 3) := by decide +kernel
theorem dX6_lacking_41 : decode cX6_lacking 41 = .ok (.iload_n 3, 1) := by decide +kernel
theorem dX6_lacking_42 : decode cX6_lacking 42 = .ok (.iconst 3, 1) := by decide +kernel
theorem dX6_lacking_43 : decode cX6_lacking 43 = .ok (.if_icmp .gt 9, 3) := by decide +kernel
theorem dX6_lacking_46 : decode cX6_lacking 46 = .ok (.iload_n 3, 1) := by decide +kernel
theorem dX6_lacking_47 : decode cX6_lacking 47 = .ok (.bipush (-3), 2) := by decide +kernel
theorem dX6_lacking_49 : decode cX6_lacking 49 = .ok (.if_icmp .ge 7, 3) := by decide +kernel
theorem dX6_lacking_52 : decode cX6_lacking 52 = .ok (.iconst 1, 1) := by decide +kernel
theorem dX6_lacking_53 : decode cX6_lacking 53 = .ok (.goto 4, 3) := by decide +kernel
theorem dX6_lacking_56 : decode cX6_lacking 56 = .ok (.iconst 0, 1) := by decide +kernel
theorem dX6_lacking_57 : decode cX6_lacking 57 = .ok (.ireturn, 1) := by decide +kernel
set_option maxRecDepth 20000 in
theorem ggX6_gradeOf_X6_lacking : GoodIn wsX6_gradeOf wsX6_lacking := goodIn_r _ [7, 2, 1, 8, 9, 10, 11, 12, 13, 14, 15, 16, 17, 18, 19, 20, 21, 22, 23, 24, 25, 26, 27, 28, 29, 30, 31] (by decide +kernel) (by decide +kernel)
set_option maxRecDepth 20000 in
theorem gX6_gradeOf_X6_lacking : GoodIn wsX6_gradeOf (wsV RX6 139 RX6 yX6_lacking wsX6_lacking) := goodIn_app (goodIn_of _ (by decide +kernel)) ggX6_gradeOf_X6_lacking
theorem dX6_gradeOf_0 : decode cX6_gradeOf 0 = .ok (.aload_n 0, 1) := by decide +kernel
theorem dX6_gradeOf_1 : decode cX6_gradeOf 1 = .ok (.iload_n 1, 1) := by decide +kernel
theorem dX6_gradeOf_2 : decode cX6_gradeOf 2 = .ok (.invokevirtual 139, 3) := by decide +kernel
theorem dX6_gradeOf_5 : decode cX6_gradeOf 5 = .ok (.ifCond .le 5, 3) := by decide +kernel
theorem dX6_gradeOf_8 : decode cX6_gradeOf 8 = .ok (.iconst (-1), 1) := by decide +kernel
theorem dX6_gradeOf_9 : decode cX6_gradeOf 9 = .ok (.ireturn, 1) := by decide +kernel
theorem dX6_gradeOf_10 : decode cX6_gradeOf 10 = .ok (.aload_n 0, 1) := by decide +kernel
theorem dX6_gradeOf_11 : decode cX6_gradeOf 11 = .ok (.getfield 47, 3) := by decide +kernel
theorem dX6_gradeOf_14 : decode cX6_gradeOf 14 = .ok (.iconst 3, 1) := by decide +kernel
theorem dX6_gradeOf_15 : decode cX6_gradeOf 15 = .ok (.iload_n 1, 1) := by decide +kernel
theorem dX6_gradeOf_16 : decode cX6_gradeOf 16 = .ok (.imul, 1) := by decide +kernel
theorem dX6_gradeOf_17 : decode cX6_gradeOf 17 = .ok (.iaload, 1) := by decide +kernel
theorem dX6_gradeOf_18 : decode cX6_gradeOf 18 = .ok (.istore_n 2, 1) := by decide +kernel
theorem dX6_gradeOf_19 : decode cX6_gradeOf 19 = .ok (.aload_n 0, 1) := by decide +kernel
theorem dX6_gradeOf_20 : decode cX6_gradeOf 20 = .ok (.getfield 47, 3) := by decide +kernel
theorem dX6_gradeOf_23 : decode cX6_gradeOf 23 = .ok (.iconst 3, 1) := by decide +kernel
theorem dX6_gradeOf_24 : decode cX6_gradeOf 24 = .ok (.iload_n 1, 1) := by decide +kernel
theorem dX6_gradeOf_25 : decode cX6_gradeOf 25 = .ok (.imul, 1) := by decide +kernel
theorem dX6_gradeOf_26 : decode cX6_gradeOf 26 = .ok (.iconst 1, 1) := by decide +kernel
theorem dX6_gradeOf_27 : decode cX6_gradeOf 27 = .ok (.iadd, 1) := by decide +kernel
theorem dX6_gradeOf_28 : decode cX6_gradeOf 28 = .ok (.iaload, 1) := by decide +kernel
theorem dX6_gradeOf_29 : decode cX6_gradeOf 29 = .ok (.istore_n 3, 1) := by decide +kernel
theorem dX6_gradeOf_30 : decode cX6_gradeOf 30 = .ok (.aload_n 0, 1) := by decide +kernel
theorem dX6_gradeOf_31 : decode cX6_gradeOf 31 = .ok (.getfield 47, 3) := by decide +kernel
theorem dX6_gradeOf_34 : decode cX6_gradeOf 34 = .ok (.iconst 3, 1) := by decide +kernel
theorem dX6_gradeOf_35 : decode cX6_gradeOf 35 = .ok (.iload_n 1, 1) := by decide +kernel
theorem dX6_gradeOf_36 : decode cX6_gradeOf 36 = .ok (.imul, 1) := by decide +kernel
theorem dX6_gradeOf_37 : decode cX6_gradeOf 37 = .ok (.iconst 2, 1) := by decide +kernel
theorem dX6_gradeOf_38 : decode cX6_gradeOf 38 = .ok (.iadd, 1) := by decide +kernel
theorem dX6_gradeOf_39 : decode cX6_gradeOf 39 = .ok (.iaload, 1) := by decide +kernel
theorem dX6_gradeOf_40 : decode cX6_gradeOf 40 = .ok (.istore 4, 2) := by decide +kernel
theorem dX6_gradeOf_42 : decode cX6_gradeOf 42 = .ok (.aload_n 0, 1) := by decide +kernel
theorem dX6_gradeOf_43 : decode cX6_gradeOf 43 = .ok (.getfield 53, 3) := by decide +kernel
theorem dX6_gradeOf_46 : decode cX6_gradeOf 46 = .ok (.iload_n 1, 1) := by decide +kernel
theorem dX6_gradeOf_47 : decode cX6_gradeOf 47 = .ok (.iaload, 1) := by decide +kernel
theorem dX6_gradeOf_48 : decode cX6_gradeOf 48 = .ok (.iconst 2, 1) := by decide +kernel
theorem dX6_gradeOf_49 : decode cX6_gradeOf 49 = .ok (.if_icmp .ne 9, 3) := by decide +kernel
theorem dX6_gradeOf_52 : decode cX6_gradeOf 52 = .ok (.iload_n 2, 1) := by decide +kernel
theorem dX6_gradeOf_53 : decode cX6_gradeOf 53 = .ok (.iload_n 3, 1) := by decide +kernel
theorem dX6_gradeOf_54 : decode cX6_gradeOf 54 = .ok (.iadd, 1) := by decide +kernel
theorem dX6_gradeOf_55 : decode cX6_gradeOf 55 = .ok (.iconst 2, 1) := by decide +kernel
theorem dX6_gradeOf_56 : decode cX6_gradeOf 56 = .ok (.idiv, 1) := by decide +kernel
theorem dX6_gradeOf_57 : decode cX6_gradeOf 57 = .ok (.ireturn, 1) := by decide +kernel
theorem dX6_gradeOf_58 : decode cX6_gradeOf 58 = .ok (.iload_n 2, 1) := by decide +kernel
theorem dX6_gradeOf_59 : decode cX6_gradeOf 59 = .ok (.iload_n 3, 1) := by decide +kernel
theorem dX6_gradeOf_60 : decode cX6_gradeOf 60 = .ok (.if_icmp .ge 7, 3) := by decide +kernel
theorem dX6_gradeOf_63 : decode cX6_gradeOf 63 = .ok (.iload_n 2, 1) := by decide +kernel
theorem dX6_gradeOf_64 : decode cX6_gradeOf 64 = .ok (.goto 4, 3) := by decide +kernel
theorem dX6_gradeOf_67 : decode cX6_gradeOf 67 = .ok (.iload_n 3, 1) := by decide +kernel
theorem dX6_gradeOf_68 : decode cX6_gradeOf 68 = .ok (.istore 5, 2) := by decide +kernel
theorem dX6_gradeOf_70 : decode cX6_gradeOf 70 = .ok (.iload_n 2, 1) := by decide +kernel
theorem dX6_gradeOf_71 : decode cX6_gradeOf 71 = .ok (.iload_n 3, 1) := by decide +kernel
theorem dX6_gradeOf_72 : decode cX6_gradeOf 72 = .ok (.if_icmp .ge 7, 3) := by decide +kernel
theorem dX6_gradeOf_75 : decode cX6_gradeOf 75 = .ok (.iload_n 3, 1) := by decide +kernel
theorem dX6_gradeOf_76 : decode cX6_gradeOf 76 = .ok (.goto 4, 3) := by decide +kernel
theorem dX6_gradeOf_79 : decode cX6_gradeOf 79 = .ok (.iload_n 2, 1) := by decide +kernel
theorem dX6_gradeOf_80 : decode cX6_gradeOf 80 = .ok (.istore 6, 2) := by decide +kernel
theorem dX6_gradeOf_82 : decode cX6_gradeOf 82 = .ok (.iload 4, 2) := by decide +kernel
theorem dX6_gradeOf_84 : decode cX6_gradeOf 84 = .ok (.iload 5, 2) := by decide +kernel
theorem dX6_gradeOf_86 : decode cX6_gradeOf 86 = .ok (.if_icmp .ge 8, 3) := by decide +kernel
theorem dX6_gradeOf_89 : decode cX6_gradeOf 89 = .ok (.iload 5, 2) := by decide +kernel
theorem dX6_gradeOf_91 : decode cX6_gradeOf 91 = .ok (.goto 17, 3) := by decide +kernel
theorem dX6_gradeOf_94 : decode cX6_gradeOf 94 = .ok (.iload 4, 2) := by decide +kernel
theorem dX6_gradeOf_96 : decode cX6_gradeOf 96 = .ok (.iload 6, 2) := by decide +kernel
theorem dX6_gradeOf_98 : decode cX6_gradeOf 98 = .ok (.if_icmp .le 8, 3) := by decide +kernel
theorem dX6_gradeOf_101 : decode cX6_gradeOf 101 = .ok (.iload 6, 2) := by decide +kernel
theorem dX6_gradeOf_103 : decode cX6_gradeOf 103 = .ok (.goto 5, 3) := by decide +kernel
theorem dX6_gradeOf_106 : decode cX6_gradeOf 106 = .ok (.iload 4, 2) := by decide +kernel
theorem dX6_gradeOf_108 : decode cX6_gradeOf 108 = .ok (.ireturn, 1) := by decide +kernel
set_option maxRecDepth 20000 in
theorem ggX6_isExaminer_X6_in : GoodIn wsX6_isExaminer wsX6_in := goodIn_r _ [4] (by decide +kernel) (by decide +kernel)
set_option maxRecDepth 20000 in
theorem gX6_isExaminer_X6_in : GoodIn wsX6_isExaminer (va_wsS RX6 78 yX6_in wsX6_in) := goodIn_app (goodIn_of _ (by decide +kernel)) ggX6_isExaminer_X6_in
theorem dX6_isExaminer_0 : decode cX6_isExaminer 0 = .ok (.iload_n 0, 1) := by decide +kernel
theorem dX6_isExaminer_1 : decode cX6_isExaminer 1 = .ok (.iconst 0, 1) := by decide +kernel
theorem dX6_isExaminer_2 : decode cX6_isExaminer 2 = .ok (.iconst 5, 1) := by decide +kernel
theorem dX6_isExaminer_3 : decode cX6_isExaminer 3 = .ok (.invokestatic 78, 3) := by decide +kernel
theorem dX6_isExaminer_6 : decode cX6_isExaminer 6 = .ok (.ireturn, 1) := by decide +kernel
theorem dX6_hasMarked_0 : decode cX6_hasMarked 0 = .ok (.iconst 0, 1) := by decide +kernel
theorem dX6_hasMarked_1 : decode cX6_hasMarked 1 = .ok (.istore_n 3, 1) := by decide +kernel
theorem dX6_hasMarked_2 : decode cX6_hasMarked 2 = .ok (.iconst 0, 1) := by decide +kernel
theorem dX6_hasMarked_3 : decode cX6_hasMarked 3 = .ok (.istore 4, 2) := by decide +kernel
theorem dX6_hasMarked_5 : decode cX6_hasMarked 5 = .ok (.iload 4, 2) := by decide +kernel
theorem dX6_hasMarked_7 : decode cX6_hasMarked 7 = .ok (.aload_n 0, 1) := by decide +kernel
theorem dX6_hasMarked_8 : decode cX6_hasMarked 8 = .ok (.getfield 53, 3) := by decide +kernel
theorem dX6_hasMarked_11 : decode cX6_hasMarked 11 = .ok (.iload_n 2, 1) := by decide +kernel
theorem dX6_hasMarked_12 : decode cX6_hasMarked 12 = .ok (.iaload, 1) := by decide +kernel
theorem dX6_hasMarked_13 : decode cX6_hasMarked 13 = .ok (.if_icmp .ge 34, 3) := by decide +kernel
theorem dX6_hasMarked_16 : decode cX6_hasMarked 16 = .ok (.iload_n 3, 1) := by decide +kernel
theorem dX6_hasMarked_17 : decode cX6_hasMarked 17 = .ok (.ifCond .ne 18, 3) := by decide +kernel
theorem dX6_hasMarked_20 : decode cX6_hasMarked 20 = .ok (.aload_n 0, 1) := by decide +kernel
theorem dX6_hasMarked_21 : decode cX6_hasMarked 21 = .ok (.getfield 50, 3) := by decide +kernel
theorem dX6_hasMarked_24 : decode cX6_hasMarked 24 = .ok (.iconst 3, 1) := by decide +kernel
theorem dX6_hasMarked_25 : decode cX6_hasMarked 25 = .ok (.iload_n 2, 1) := by decide +kernel
theorem dX6_hasMarked_26 : decode cX6_hasMarked 26 = .ok (.imul, 1) := by decide +kernel
theorem dX6_hasMarked_27 : decode cX6_hasMarked 27 = .ok (.iload 4, 2) := by decide +kernel
theorem dX6_hasMarked_29 : decode cX6_hasMarked 29 = .ok (.iadd, 1) := by decide +kernel
theorem dX6_hasMarked_30 : decode cX6_hasMarked 30 = .ok (.iaload, 1) := by decide +kernel
theorem dX6_hasMarked_31 : decode cX6_hasMarked 31 = .ok (.iload_n 1, 1) := by decide +kernel
theorem dX6_hasMarked_32 : decode cX6_hasMarked 32 = .ok (.if_icmp .ne 7, 3) := by decide +kernel
theorem dX6_hasMarked_35 : decode cX6_hasMarked 35 = .ok (.iconst 1, 1) := by decide +kernel
theorem dX6_hasMarked_36 : decode cX6_hasMarked 36 = .ok (.goto 4, 3) := by decide +kernel
theorem dX6_hasMarked_39 : decode cX6_hasMarked 39 = .ok (.iconst 0, 1) := by decide +kernel
theorem dX6_hasMarked_40 : decode cX6_hasMarked 40 = .ok (.istore_n 3, 1) := by decide +kernel
theorem dX6_hasMarked_41 : decode cX6_hasMarked 41 = .ok (.iinc 4 1, 3) := by decide +kernel
theorem dX6_hasMarked_44 : decode cX6_hasMarked 44 = .ok (.goto (-39), 3) := by decide +kernel
theorem dX6_hasMarked_47 : decode cX6_hasMarked 47 = .ok (.iload_n 3, 1) := by decide +kernel
theorem dX6_hasMarked_48 : decode cX6_hasMarked 48 = .ok (.ireturn, 1) := by decide +kernel
set_option maxRecDepth 20000 in
theorem ggX6_mark_X6_isExaminer : GoodIn wsX6_mark wsX6_isExaminer := goodIn_r _ [8, 9, 10, 7, 11] (by decide +kernel) (by decide +kernel)
set_option maxRecDepth 20000 in
theorem gX6_mark_X6_isExaminer : GoodIn wsX6_mark (va_wsS RX6 142 yX6_isExaminer wsX6_isExaminer) := goodIn_app (goodIn_of _ (by decide +kernel)) ggX6_mark_X6_isExaminer
set_option maxRecDepth 20000 in
theorem ggX6_mark_X6_isScript : GoodIn wsX6_mark wsX6_isScript := goodIn_r _ [15, 16, 9, 10, 7, 11, 34, 35, 36, 37, 38, 39, 40, 41, 42, 43, 44, 45, 46, 47, 48, 49, 50, 51, 52, 53, 54, 55, 56, 57] (by decide +kernel) (by decide +kernel)
set_option maxRecDepth 20000 in
theorem gX6_mark_X6_isScript : GoodIn wsX6_mark (wsV RX6 133 RX6 yX6_isScript wsX6_isScript) := goodIn_app (goodIn_of _ (by decide +kernel)) ggX6_mark_X6_isScript
set_option maxRecDepth 20000 in
theorem ggX6_mark_X6_asks : GoodIn wsX6_mark wsX6_asks := goodIn_r _ [20, 21, 34, 35, 36, 37, 38, 39, 40, 41, 42, 43, 44, 45, 46, 47, 48, 49, 50, 51, 52, 53, 54, 55, 56, 57] (by decide +kernel) (by decide +kernel)
set_option maxRecDepth 20000 in
theorem gX6_mark_X6_asks : GoodIn wsX6_mark (wsV RX6 82 RX6 yX6_asks wsX6_asks) := goodIn_app (goodIn_of _ (by decide +kernel)) ggX6_mark_X6_asks
set_option maxRecDepth 20000 in
theorem ggX6_mark_X6_in : GoodIn wsX6_mark wsX6_in := goodIn_r _ [11] (by decide +kernel) (by decide +kernel)
set_option maxRecDepth 20000 in
theorem gX6_mark_X6_in : GoodIn wsX6_mark (va_wsS RX6 78 yX6_in wsX6_in) := goodIn_app (goodIn_of _ (by decide +kernel)) ggX6_mark_X6_in
set_option maxRecDepth 20000 in
theorem ggX6_mark_X6_fails : GoodIn wsX6_mark wsX6_fails := goodIn_r _ [25, 21, 34, 35, 36, 37, 38, 39, 40, 41, 42, 43, 44, 45, 46, 47, 48, 49, 50, 51, 52, 53, 54, 55, 56, 57] (by decide +kernel) (by decide +kernel)
set_option maxRecDepth 20000 in
theorem gX6_mark_X6_fails : GoodIn wsX6_mark (wsV RX6 86 RX6 yX6_fails wsX6_fails) := goodIn_app (goodIn_of _ (by decide +kernel)) ggX6_mark_X6_fails
set_option maxRecDepth 20000 in
theorem ggX6_mark_X6_hasMarked : GoodIn wsX6_mark wsX6_hasMarked := goodIn_r _ [29, 3, 4, 34, 35, 36, 37, 38, 39, 40, 41, 42, 43, 44, 45, 46, 47, 48, 49, 50, 51, 52, 53, 54, 55, 56, 57] (by decide +kernel) (by decide +kernel)
set_option maxRecDepth 20000 in
theorem gX6_mark_X6_hasMarked : GoodIn wsX6_mark (wsV RX6 145 RX6 yX6_hasMarked wsX6_hasMarked) := goodIn_app (goodIn_of _ (by decide +kernel)) ggX6_mark_X6_hasMarked
set_option maxRecDepth 20000 in
theorem ggX6_mark_X6_lacking : GoodIn wsX6_mark wsX6_lacking := goodIn_r _ [33, 3, 2, 34, 35, 36, 37, 38, 39, 40, 41, 42, 43, 44, 45, 46, 47, 48, 49, 50, 51, 52, 53, 54, 55, 56, 57] (by decide +kernel) (by decide +kernel)
set_option maxRecDepth 20000 in
theorem gX6_mark_X6_lacking : GoodIn wsX6_mark (wsV RX6 139 RX6 yX6_lacking wsX6_lacking) := goodIn_app (goodIn_of _ (by decide +kernel)) ggX6_mark_X6_lacking
theorem dX6_mark_0 : decode cX6_mark 0 = .ok (.aload_n 0, 1) := by decide +kernel
theorem dX6_mark_1 : decode cX6_mark 1 = .ok (.iload_n 1, 1) := by decide +kernel
theorem dX6_mark_2 : decode cX6_mark 2 = .ok (.invokestatic 142, 3) := by decide +kernel
theorem dX6_mark_5 : decode cX6_mark 5 = .ok (.ifCond .eq 15, 3) := by decide +kernel
theorem dX6_mark_8 : decode cX6_mark 8 = .ok (.aload_n 0, 1) := by decide +kernel
theorem dX6_mark_9 : decode cX6_mark 9 = .ok (.iload_n 2, 1) := by decide +kernel
theorem dX6_mark_10 : decode cX6_mark 10 = .ok (.invokevirtual 133, 3) := by decide +kernel
theorem dX6_mark_13 : decode cX6_mark 13 = .ok (.ifCond .eq 7, 3) := by decide +kernel
theorem dX6_mark_16 : decode cX6_mark 16 = .ok (.iconst 1, 1) := by decide +kernel
theorem dX6_mark_17 : decode cX6_mark 17 = .ok (.goto 4, 3) := by decide +kernel
theorem dX6_mark_20 : decode cX6_mark 20 = .ok (.iconst 0, 1) := by decide +kernel
theorem dX6_mark_21 : decode cX6_mark 21 = .ok (.invokevirtual 82, 3) := by decide +kernel
theorem dX6_mark_24 : decode cX6_mark 24 = .ok (.ifCond .ne 5, 3) := by decide +kernel
theorem dX6_mark_27 : decode cX6_mark 27 = .ok (.iconst 0, 1) := by decide +kernel
theorem dX6_mark_28 : decode cX6_mark 28 = .ok (.ireturn, 1) := by decide +kernel
theorem dX6_mark_29 : decode cX6_mark 29 = .ok (.iload_n 3, 1) := by decide +kernel
theorem dX6_mark_30 : decode cX6_mark 30 = .ok (.iconst 0, 1) := by decide +kernel
theorem dX6_mark_31 : decode cX6_mark 31 = .ok (.bipush 20, 2) := by decide +kernel
theorem dX6_mark_33 : decode cX6_mark 33 = .ok (.invokestatic 78, 3) := by decide +kernel
theorem dX6_mark_36 : decode cX6_mark 36 = .ok (.ifCond .ne 9, 3) := by decide +kernel
theorem dX6_mark_39 : decode cX6_mark 39 = .ok (.aload_n 0, 1) := by decide +kernel
theorem dX6_mark_40 : decode cX6_mark 40 = .ok (.iconst 2, 1) := by decide +kernel
theorem dX6_mark_41 : decode cX6_mark 41 = .ok (.invokevirtual 86, 3) := by decide +kernel
theorem dX6_mark_44 : decode cX6_mark 44 = .ok (.ireturn, 1) := by decide +kernel
theorem dX6_mark_45 : decode cX6_mark 45 = .ok (.aload_n 0, 1) := by decide +kernel
theorem dX6_mark_46 : decode cX6_mark 46 = .ok (.getfield 56, 3) := by decide +kernel
theorem dX6_mark_49 : decode cX6_mark 49 = .ok (.iload_n 1, 1) := by decide +kernel
theorem dX6_mark_50 : decode cX6_mark 50 = .ok (.baload, 1) := by decide +kernel
theorem dX6_mark_51 : decode cX6_mark 51 = .ok (.ifCond .ne 20, 3) := by decide +kernel
theorem dX6_mark_54 : decode cX6_mark 54 = .ok (.aload_n 0, 1) := by decide +kernel
theorem dX6_mark_55 : decode cX6_mark 55 = .ok (.iload_n 1, 1) := by decide +kernel
theorem dX6_mark_56 : decode cX6_mark 56 = .ok (.iload_n 2, 1) := by decide +kernel
theorem dX6_mark_57 : decode cX6_mark 57 = .ok (.invokevirtual 145, 3) := by decide +kernel
theorem dX6_mark_60 : decode cX6_mark 60 = .ok (.ifCond .ne 11, 3) := by decide +kernel
theorem dX6_mark_63 : decode cX6_mark 63 = .ok (.aload_n 0, 1) := by decide +kernel
theorem dX6_mark_64 : decode cX6_mark 64 = .ok (.iload_n 2, 1) := by decide +kernel
theorem dX6_mark_65 : decode cX6_mark 65 = .ok (.invokevirtual 139, 3) := by decide +kernel
theorem dX6_mark_68 : decode cX6_mark 68 = .ok (.ifCond .ne 9, 3) := by decide +kernel
theorem dX6_mark_71 : decode cX6_mark 71 = .ok (.aload_n 0, 1) := by decide +kernel
theorem dX6_mark_72 : decode cX6_mark 72 = .ok (.iconst 3, 1) := by decide +kernel
theorem dX6_mark_73 : decode cX6_mark 73 = .ok (.invokevirtual 86, 3) := by decide +kernel
theorem dX6_mark_76 : decode cX6_mark 76 = .ok (.ireturn, 1) := by decide +kernel
theorem dX6_mark_77 : decode cX6_mark 77 = .ok (.aload_n 0, 1) := by decide +kernel
theorem dX6_mark_78 : decode cX6_mark 78 = .ok (.getfield 47, 3) := by decide +kernel
theorem dX6_mark_81 : decode cX6_mark 81 = .ok (.iconst 3, 1) := by decide +kernel
theorem dX6_mark_82 : decode cX6_mark 82 = .ok (.iload_n 2, 1) := by decide +kernel
theorem dX6_mark_83 : decode cX6_mark 83 = .ok (.imul, 1) := by decide +kernel
theorem dX6_mark_84 : decode cX6_mark 84 = .ok (.aload_n 0, 1) := by decide +kernel
theorem dX6_mark_85 : decode cX6_mark 85 = .ok (.getfield 53, 3) := by decide +kernel
theorem dX6_mark_88 : decode cX6_mark 88 = .ok (.iload_n 2, 1) := by decide +kernel
theorem dX6_mark_89 : decode cX6_mark 89 = .ok (.iaload, 1) := by decide +kernel
theorem dX6_mark_90 : decode cX6_mark 90 = .ok (.iadd, 1) := by decide +kernel
theorem dX6_mark_91 : decode cX6_mark 91 = .ok (.iload_n 3, 1) := by decide +kernel
theorem dX6_mark_92 : decode cX6_mark 92 = .ok (.iastore, 1) := by decide +kernel
theorem dX6_mark_93 : decode cX6_mark 93 = .ok (.aload_n 0, 1) := by decide +kernel
theorem dX6_mark_94 : decode cX6_mark 94 = .ok (.getfield 50, 3) := by decide +kernel
theorem dX6_mark_97 : decode cX6_mark 97 = .ok (.iconst 3, 1) := by decide +kernel
theorem dX6_mark_98 : decode cX6_mark 98 = .ok (.iload_n 2, 1) := by decide +kernel
theorem dX6_mark_99 : decode cX6_mark 99 = .ok (.imul, 1) := by decide +kernel
theorem dX6_mark_100 : decode cX6_mark 100 = .ok (.aload_n 0, 1) := by decide +kernel
theorem dX6_mark_101 : decode cX6_mark 101 = .ok (.getfield 53, 3) := by decide +kernel
theorem dX6_mark_104 : decode cX6_mark 104 = .ok (.iload_n 2, 1) := by decide +kernel
theorem dX6_mark_105 : decode cX6_mark 105 = .ok (.iaload, 1) := by decide +kernel
theorem dX6_mark_106 : decode cX6_mark 106 = .ok (.iadd, 1) := by decide +kernel
theorem dX6_mark_107 : decode cX6_mark 107 = .ok (.iload_n 1, 1) := by decide +kernel
theorem dX6_mark_108 : decode cX6_mark 108 = .ok (.iastore, 1) := by decide +kernel
theorem dX6_mark_109 : decode cX6_mark 109 = .ok (.aload_n 0, 1) := by decide +kernel
theorem dX6_mark_110 : decode cX6_mark 110 = .ok (.getfield 53, 3) := by decide +kernel
theorem dX6_mark_113 : decode cX6_mark 113 = .ok (.iload_n 2, 1) := by decide +kernel
theorem dX6_mark_114 : decode cX6_mark 114 = .ok (.dup2, 1) := by decide +kernel
theorem dX6_mark_115 : decode cX6_mark 115 = .ok (.iaload, 1) := by decide +kernel
theorem dX6_mark_116 : decode cX6_mark 116 = .ok (.iconst 1, 1) := by decide +kernel
theorem dX6_mark_117 : decode cX6_mark 117 = .ok (.iadd, 1) := by decide +kernel
theorem dX6_mark_118 : decode cX6_mark 118 = .ok (.iastore, 1) := by decide +kernel
theorem dX6_mark_119 : decode cX6_mark 119 = .ok (.aload_n 0, 1) := by decide +kernel
theorem dX6_mark_120 : decode cX6_mark 120 = .ok (.getfield 53, 3) := by decide +kernel
theorem dX6_mark_123 : decode cX6_mark 123 = .ok (.iload_n 2, 1) := by decide +kernel
theorem dX6_mark_124 : decode cX6_mark 124 = .ok (.iaload, 1) := by decide +kernel
theorem dX6_mark_125 : decode cX6_mark 125 = .ok (.ireturn, 1) := by decide +kernel
set_option maxRecDepth 20000 in
theorem ggX6_grade_X6_isScript : GoodIn wsX6_grade wsX6_isScript := goodIn_r _ [5, 6, 7, 8, 4, 9, 25, 26, 27, 28, 29, 30, 31, 32, 33, 34, 35, 36, 37, 38, 39, 40, 41, 42, 43, 44, 45, 46, 47, 48] (by decide +kernel) (by decide +kernel)
set_option maxRecDepth 20000 in
theorem gX6_grade_X6_isScript : GoodIn wsX6_grade (wsV RX6 133 RX6 yX6_isScript wsX6_isScript) := goodIn_app (goodIn_of _ (by decide +kernel)) ggX6_grade_X6_isScript
set_option maxRecDepth 20000 in
theorem ggX6_grade_X6_asks : GoodIn wsX6_grade wsX6_asks := goodIn_r _ [13, 14, 25, 26, 27, 28, 29, 30, 31, 32, 33, 34, 35, 36, 37, 38, 39, 40, 41, 42, 43, 44, 45, 46, 47, 48] (by decide +kernel) (by decide +kernel)
set_option maxRecDepth 20000 in
theorem gX6_grade_X6_asks : GoodIn wsX6_grade (wsV RX6 82 RX6 yX6_asks wsX6_asks) := goodIn_app (goodIn_of _ (by decide +kernel)) ggX6_grade_X6_asks
set_option maxRecDepth 20000 in
theorem ggX6_grade_X6_gradeOf : GoodIn wsX6_grade wsX6_gradeOf := goodIn_r _ [18, 19, 20, 21, 22, 23, 4, 24, 25, 26, 27, 28, 29, 30, 31, 32, 33, 34, 35, 36, 37, 38, 39, 40, 41, 42, 43, 44, 45, 46, 47, 48] (by decide +kernel) (by decide +kernel)
set_option maxRecDepth 20000 in
theorem gX6_grade_X6_gradeOf : GoodIn wsX6_grade (wsV RX6 148 RX6 yX6_gradeOf wsX6_gradeOf) := goodIn_app (goodIn_of _ (by decide +kernel)) ggX6_grade_X6_gradeOf
theorem dX6_grade_0 : decode cX6_grade 0 = .ok (.aload_n 0, 1) := by decide +kernel
theorem dX6_grade_1 : decode cX6_grade 1 = .ok (.aload_n 0, 1) := by decide +kernel
theorem dX6_grade_2 : decode cX6_grade 2 = .ok (.iload_n 1, 1) := by decide +kernel
theorem dX6_grade_3 : decode cX6_grade 3 = .ok (.invokevirtual 133, 3) := by decide +kernel
theorem dX6_grade_6 : decode cX6_grade 6 = .ok (.invokevirtual 82, 3) := by decide +kernel
theorem dX6_grade_9 : decode cX6_grade 9 = .ok (.ifCond .eq 11, 3) := by decide +kernel
theorem dX6_grade_12 : decode cX6_grade 12 = .ok (.aload_n 0, 1) := by decide +kernel
theorem dX6_grade_13 : decode cX6_grade 13 = .ok (.iload_n 1, 1) := by decide +kernel
theorem dX6_grade_14 : decode cX6_grade 14 = .ok (.invokevirtual 148, 3) := by decide +kernel
theorem dX6_grade_17 : decode cX6_grade 17 = .ok (.goto 4, 3) := by decide +kernel
theorem dX6_grade_20 : decode cX6_grade 20 = .ok (.iconst 0, 1) := by decide +kernel
theorem dX6_grade_21 : decode cX6_grade 21 = .ok (.ireturn, 1) := by decide +kernel
set_option maxRecDepth 20000 in
theorem ggX6_lacks_X6_isScript : GoodIn wsX6_lacks wsX6_isScript := goodIn_r _ [5, 6, 7, 8, 4, 9, 21, 22, 23, 24, 25, 26, 27, 28, 29, 30, 31, 32, 33, 34, 35, 36, 37, 38, 39, 40, 41, 42, 43, 44] (by decide +kernel) (by decide +kernel)
set_option maxRecDepth 20000 in
theorem gX6_lacks_X6_isScript : GoodIn wsX6_lacks (wsV RX6 133 RX6 yX6_isScript wsX6_isScript) := goodIn_app (goodIn_of _ (by decide +kernel)) ggX6_lacks_X6_isScript
set_option maxRecDepth 20000 in
theorem ggX6_lacks_X6_asks : GoodIn wsX6_lacks wsX6_asks := goodIn_r _ [13, 14, 21, 22, 23, 24, 25, 26, 27, 28, 29, 30, 31, 32, 33, 34, 35, 36, 37, 38, 39, 40, 41, 42, 43, 44] (by decide +kernel) (by decide +kernel)
set_option maxRecDepth 20000 in
theorem gX6_lacks_X6_asks : GoodIn wsX6_lacks (wsV RX6 82 RX6 yX6_asks wsX6_asks) := goodIn_app (goodIn_of _ (by decide +kernel)) ggX6_lacks_X6_asks
set_option maxRecDepth 20000 in
theorem ggX6_lacks_X6_lacking : GoodIn wsX6_lacks wsX6_lacking := goodIn_r _ [18, 19, 20, 21, 22, 23, 24, 25, 26, 27, 28, 29, 30, 31, 32, 33, 34, 35, 36, 37, 38, 39, 40, 41, 42, 43, 44] (by decide +kernel) (by decide +kernel)
set_option maxRecDepth 20000 in
theorem gX6_lacks_X6_lacking : GoodIn wsX6_lacks (wsV RX6 139 RX6 yX6_lacking wsX6_lacking) := goodIn_app (goodIn_of _ (by decide +kernel)) ggX6_lacks_X6_lacking
theorem dX6_lacks_0 : decode cX6_lacks 0 = .ok (.aload_n 0, 1) := by decide +kernel
theorem dX6_lacks_1 : decode cX6_lacks 1 = .ok (.aload_n 0, 1) := by decide +kernel
theorem dX6_lacks_2 : decode cX6_lacks 2 = .ok (.iload_n 1, 1) := by decide +kernel
theorem dX6_lacks_3 : decode cX6_lacks 3 = .ok (.invokevirtual 133, 3) := by decide +kernel
theorem dX6_lacks_6 : decode cX6_lacks 6 = .ok (.invokevirtual 82, 3) := by decide +kernel
theorem dX6_lacks_9 : decode cX6_lacks 9 = .ok (.ifCond .eq 11, 3) := by decide +kernel
theorem dX6_lacks_12 : decode cX6_lacks 12 = .ok (.aload_n 0, 1) := by decide +kernel
theorem dX6_lacks_13 : decode cX6_lacks 13 = .ok (.iload_n 1, 1) := by decide +kernel
theorem dX6_lacks_14 : decode cX6_lacks 14 = .ok (.invokevirtual 139, 3) := by decide +kernel
theorem dX6_lacks_17 : decode cX6_lacks 17 = .ok (.goto 4, 3) := by decide +kernel
theorem dX6_lacks_20 : decode cX6_lacks 20 = .ok (.iconst 0, 1) := by decide +kernel
theorem dX6_lacks_21 : decode cX6_lacks 21 = .ok (.ireturn, 1) := by decide +kernel
theorem dX6_dropsMarks_0 : decode cX6_dropsMarks 0 = .ok (.iconst 0, 1) := by decide +kernel
theorem dX6_dropsMarks_1 : decode cX6_dropsMarks 1 = .ok (.istore_n 3, 1) := by decide +kernel
theorem dX6_dropsMarks_2 : decode cX6_dropsMarks 2 = .ok (.iconst 0, 1) := by decide +kernel
theorem dX6_dropsMarks_3 : decode cX6_dropsMarks 3 = .ok (.istore 4, 2) := by decide +kernel
theorem dX6_dropsMarks_5 : decode cX6_dropsMarks 5 = .ok (.iload 4, 2) := by decide +kernel
theorem dX6_dropsMarks_7 : decode cX6_dropsMarks 7 = .ok (.aload_n 0, 1) := by decide +kernel
theorem dX6_dropsMarks_8 : decode cX6_dropsMarks 8 = .ok (.getfield 53, 3) := by decide +kernel
theorem dX6_dropsMarks_11 : decode cX6_dropsMarks 11 = .ok (.iload_n 2, 1) := by decide +kernel
theorem dX6_dropsMarks_12 : decode cX6_dropsMarks 12 = .ok (.iaload, 1) := by decide +kernel
theorem dX6_dropsMarks_13 : decode cX6_dropsMarks 13 = .ok (.if_icmp .ge 65, 3) := by decide +kernel
theorem dX6_dropsMarks_16 : decode cX6_dropsMarks 16 = .ok (.iconst 3, 1) := by decide +kernel
theorem dX6_dropsMarks_17 : decode cX6_dropsMarks 17 = .ok (.iload_n 2, 1) := by decide +kernel
theorem dX6_dropsMarks_18 : decode cX6_dropsMarks 18 = .ok (.imul, 1) := by decide +kernel
theorem dX6_dropsMarks_19 : decode cX6_dropsMarks 19 = .ok (.iload 4, 2) := by decide +kernel
theorem dX6_dropsMarks_21 : decode cX6_dropsMarks 21 = .ok (.iadd, 1) := by decide +kernel
theorem dX6_dropsMarks_22 : decode cX6_dropsMarks 22 = .ok (.istore 5, 2) := by decide +kernel
theorem dX6_dropsMarks_24 : decode cX6_dropsMarks 24 = .ok (.aload_n 0, 1) := by decide +kernel
theorem dX6_dropsMarks_25 : decode cX6_dropsMarks 25 = .ok (.getfield 50, 3) := by decide +kernel
theorem dX6_dropsMarks_28 : decode cX6_dropsMarks 28 = .ok (.iload 5, 2) := by decide +kernel
theorem dX6_dropsMarks_30 : decode cX6_dropsMarks 30 = .ok (.iaload, 1) := by decide +kernel
theorem dX6_dropsMarks_31 : decode cX6_dropsMarks 31 = .ok (.iload_n 1, 1) := by decide +kernel
theorem dX6_dropsMarks_32 : decode cX6_dropsMarks 32 = .ok (.if_icmp .eq 40, 3) := by decide +kernel
theorem dX6_dropsMarks_35 : decode cX6_dropsMarks 35 = .ok (.aload_n 0, 1) := by decide +kernel
theorem dX6_dropsMarks_36 : decode cX6_dropsMarks 36 = .ok (.getfield 47, 3) := by decide +kernel
theorem dX6_dropsMarks_39 : decode cX6_dropsMarks 39 = .ok (.iconst 3, 1) := by decide +kernel
theorem dX6_dropsMarks_40 : decode cX6_dropsMarks 40 = .ok (.iload_n 2, 1) := by decide +kernel
theorem dX6_dropsMarks_41 : decode cX6_dropsMarks 41 = .ok (.imul, 1) := by decide +kernel
theorem dX6_dropsMarks_42 : decode cX6_dropsMarks 42 = .ok (.iload_n 3, 1) := by decide +kernel
theorem dX6_dropsMarks_43 : decode cX6_dropsMarks 43 = .ok (.iadd, 1) := by decide +kernel
theorem dX6_dropsMarks_44 : decode cX6_dropsMarks 44 = .ok (.aload_n 0, 1) := by decide +kernel
theorem dX6_dropsMarks_45 : decode cX6_dropsMarks 45 = .ok (.getfield 47, 3) := by decide +kernel
theorem dX6_dropsMarks_48 : decode cX6_dropsMarks 48 = .ok (.iload 5, 2) := by decide +kernel
theorem dX6_dropsMarks_50 : decode cX6_dropsMarks 50 = .ok (.iaload, 1) := by decide +kernel
theorem dX6_dropsMarks_51 : decode cX6_dropsMarks 51 = .ok (.iastore, 1) := by decide +kernel
theorem dX6_dropsMarks_52 : decode cX6_dropsMarks 52 = .ok (.aload_n 0, 1) := by decide +kernel
theorem dX6_dropsMarks_53 : decode cX6_dropsMarks 53 = .ok (.getfield 50, 3) := by decide +kernel
theorem dX6_dropsMarks_56 : decode cX6_dropsMarks 56 = .ok (.iconst 3, 1) := by decide +kernel
theorem dX6_dropsMarks_57 : decode cX6_dropsMarks 57 = .ok (.iload_n 2, 1) := by decide +kernel
theorem dX6_dropsMarks_58 : decode cX6_dropsMarks 58 = .ok (.imul, 1) := by decide +kernel
theorem dX6_dropsMarks_59 : decode cX6_dropsMarks 59 = .ok (.iload_n 3, 1) := by decide +kernel
theorem dX6_dropsMarks_60 : decode cX6_dropsMarks 60 = .ok (.iadd, 1) := by decide +kernel
theorem dX6_dropsMarks_61 : decode cX6_dropsMarks 61 = .ok (.aload_n 0, 1) := by decide +kernel
theorem dX6_dropsMarks_62 : decode cX6_dropsMarks 62 = .ok (.getfield 50, 3) := by decide +kernel
theorem dX6_dropsMarks_65 : decode cX6_dropsMarks 65 = .ok (.iload 5, 2) := by decide +kernel
theorem dX6_dropsMarks_67 : decode cX6_dropsMarks 67 = .ok (.iaload, 1) := by decide +kernel
theorem dX6_dropsMarks_68 : decode cX6_dropsMarks 68 = .ok (.iastore, 1) := by decide +kernel
theorem dX6_dropsMarks_69 : decode cX6_dropsMarks 69 = .ok (.iinc 3 1, 3) := by decide +kernel
theorem dX6_dropsMarks_72 : decode cX6_dropsMarks 72 = .ok (.iinc 4 1, 3) := by decide +kernel
theorem dX6_dropsMarks_75 : decode cX6_dropsMarks 75 = .ok (.goto (-70), 3) := by decide +kernel
theorem dX6_dropsMarks_78 : decode cX6_dropsMarks 78 = .ok (.aload_n 0, 1) := by decide +kernel
theorem dX6_dropsMarks_79 : decode cX6_dropsMarks 79 = .ok (.getfield 53, 3) := by decide +kernel
theorem dX6_dropsMarks_82 : decode cX6_dropsMarks 82 = .ok (.iload_n 2, 1) := by decide +kernel
theorem dX6_dropsMarks_83 : decode cX6_dropsMarks 83 = .ok (.iload_n 3, 1) := by decide +kernel
theorem dX6_dropsMarks_84 : decode cX6_dropsMarks 84 = .ok (.iastore, 1) := by decide +kernel
theorem dX6_dropsMarks_85 : decode cX6_dropsMarks 85 = .ok (.return_, 1) := by decide +kernel
set_option maxRecDepth 20000 in
theorem ggX6_takeOut_X6_isExaminer : GoodIn wsX6_takeOut wsX6_isExaminer := goodIn_r _ [6, 7, 8, 5, 9] (by decide +kernel) (by decide +kernel)
set_option maxRecDepth 20000 in
theorem gX6_takeOut_X6_isExaminer : GoodIn wsX6_takeOut (va_wsS RX6 142 yX6_isExaminer wsX6_isExaminer) := goodIn_app (goodIn_of _ (by decide +kernel)) ggX6_takeOut_X6_isExaminer
set_option maxRecDepth 20000 in
theorem ggX6_takeOut_X6_asks : GoodIn wsX6_takeOut wsX6_asks := goodIn_r _ [13, 14, 34, 35, 36, 37, 38, 39, 40, 41, 42, 43, 44, 45, 46, 47, 48, 49, 50, 51, 52, 53, 54, 55, 56, 57] (by decide +kernel) (by decide +kernel)
set_option maxRecDepth 20000 in
theorem gX6_takeOut_X6_asks : GoodIn wsX6_takeOut (wsV RX6 82 RX6 yX6_asks wsX6_asks) := goodIn_app (goodIn_of _ (by decide +kernel)) ggX6_takeOut_X6_asks
set_option maxRecDepth 20000 in
theorem ggX6_takeOut_X6_fails : GoodIn wsX6_takeOut wsX6_fails := goodIn_r _ [18, 14, 34, 35, 36, 37, 38, 39, 40, 41, 42, 43, 44, 45, 46, 47, 48, 49, 50, 51, 52, 53, 54, 55, 56, 57] (by decide +kernel) (by decide +kernel)
set_option maxRecDepth 20000 in
theorem gX6_takeOut_X6_fails : GoodIn wsX6_takeOut (wsV RX6 86 RX6 yX6_fails wsX6_fails) := goodIn_app (goodIn_of _ (by decide +kernel)) ggX6_takeOut_X6_fails
set_option maxRecDepth 20000 in
theorem ggX6_takeOut_X6_gradeOf : GoodIn wsX6_takeOut wsX6_gradeOf := goodIn_r _ [22, 23, 24, 25, 26, 27, 5, 28, 34, 35, 36, 37, 38, 39, 40, 41, 42, 43, 44, 45, 46, 47, 48, 49, 50, 51, 52, 53, 54, 55, 56, 57] (by decide +kernel) (by decide +kernel)
set_option maxRecDepth 20000 in
theorem gX6_takeOut_X6_gradeOf : GoodIn wsX6_takeOut (wsV RX6 148 RX6 yX6_gradeOf wsX6_gradeOf) := goodIn_app (goodIn_of _ (by decide +kernel)) ggX6_takeOut_X6_gradeOf
set_option maxRecDepth 20000 in
theorem ggX6_takeOut_X6_dropsMarks : GoodIn wsX6_takeOut wsX6_dropsMarks := goodIn_r _ [32, 24, 33, 23, 34, 35, 36, 37, 38, 39, 40, 41, 42, 43, 44, 45, 46, 47, 48, 49, 50, 51, 52, 53, 54, 55, 56, 57] (by decide +kernel) (by decide +kernel)
set_option maxRecDepth 20000 in
theorem gX6_takeOut_X6_dropsMarks : GoodIn wsX6_takeOut (wsV RX6 151 RX6 yX6_dropsMarks wsX6_dropsMarks) := goodIn_app (goodIn_of _ (by decide +kernel)) ggX6_takeOut_X6_dropsMarks
theorem dX6_takeOut_0 : decode cX6_takeOut 0 = .ok (.aload_n 0, 1) := by decide +kernel
theorem dX6_takeOut_1 : decode cX6_takeOut 1 = .ok (.iload_n 1, 1) := by decide +kernel
theorem dX6_takeOut_2 : decode cX6_takeOut 2 = .ok (.invokestatic 142, 3) := by decide +kernel
theorem dX6_takeOut_5 : decode cX6_takeOut 5 = .ok (.invokevirtual 82, 3) := by decide +kernel
theorem dX6_takeOut_8 : decode cX6_takeOut 8 = .ok (.ifCond .ne 5, 3) := by decide +kernel
theorem dX6_takeOut_11 : decode cX6_takeOut 11 = .ok (.iconst 0, 1) := by decide +kernel
theorem dX6_takeOut_12 : decode cX6_takeOut 12 = .ok (.ireturn, 1) := by decide +kernel
theorem dX6_takeOut_13 : decode cX6_takeOut 13 = .ok (.aload_n 0, 1) := by decide +kernel
theorem dX6_takeOut_14 : decode cX6_takeOut 14 = .ok (.getfield 56, 3) := by decide +kernel
theorem dX6_takeOut_17 : decode cX6_takeOut 17 = .ok (.iload_n 1, 1) := by decide +kernel
theorem dX6_takeOut_18 : decode cX6_takeOut 18 = .ok (.baload, 1) := by decide +kernel
theorem dX6_takeOut_19 : decode cX6_takeOut 19 = .ok (.ifCond .eq 9, 3) := by decide +kernel
theorem dX6_takeOut_22 : decode cX6_takeOut 22 = .ok (.aload_n 0, 1) := by decide +kernel
theorem dX6_takeOut_23 : decode cX6_takeOut 23 = .ok (.iconst 2, 1) := by decide +kernel
theorem dX6_takeOut_24 : decode cX6_takeOut 24 = .ok (.invokevirtual 86, 3) := by decide +kernel
theorem dX6_takeOut_27 : decode cX6_takeOut 27 = .ok (.ireturn, 1) := by decide +kernel
theorem dX6_takeOut_28 : decode cX6_takeOut 28 = .ok (.aload_n 0, 1) := by decide +kernel
theorem dX6_takeOut_29 : decode cX6_takeOut 29 = .ok (.getfield 56, 3) := by decide +kernel
theorem dX6_takeOut_32 : decode cX6_takeOut 32 = .ok (.iload_n 1, 1) := by decide +kernel
theorem dX6_takeOut_33 : decode cX6_takeOut 33 = .ok (.iconst 1, 1) := by decide +kernel
theorem dX6_takeOut_34 : decode cX6_takeOut 34 = .ok (.bastore, 1) := by decide +kernel
theorem dX6_takeOut_35 : decode cX6_takeOut 35 = .ok (.iconst 0, 1) := by decide +kernel
theorem dX6_takeOut_36 : decode cX6_takeOut 36 = .ok (.istore_n 2, 1) := by decide +kernel
theorem dX6_takeOut_37 : decode cX6_takeOut 37 = .ok (.iconst 0, 1) := by decide +kernel
theorem dX6_takeOut_38 : decode cX6_takeOut 38 = .ok (.istore_n 3, 1) := by decide +kernel
theorem dX6_takeOut_39 : decode cX6_takeOut 39 = .ok (.iload_n 3, 1) := by decide +kernel
theorem dX6_takeOut_40 : decode cX6_takeOut 40 = .ok (.aload_n 0, 1) := by decide +kernel
theorem dX6_takeOut_41 : decode cX6_takeOut 41 = .ok (.getfield 75, 3) := by decide +kernel
theorem dX6_takeOut_44 : decode cX6_takeOut 44 = .ok (.if_icmp .ge 40, 3) := by decide +kernel
theorem dX6_takeOut_47 : decode cX6_takeOut 47 = .ok (.aload_n 0, 1) := by decide +kernel
theorem dX6_takeOut_48 : decode cX6_takeOut 48 = .ok (.iload_n 3, 1) := by decide +kernel
theorem dX6_takeOut_49 : decode cX6_takeOut 49 = .ok (.invokevirtual 148, 3) := by decide +kernel
theorem dX6_takeOut_52 : decode cX6_takeOut 52 = .ok (.istore 4, 2) := by decide +kernel
theorem dX6_takeOut_54 : decode cX6_takeOut 54 = .ok (.aload_n 0, 1) := by decide +kernel
theorem dX6_takeOut_55 : decode cX6_takeOut 55 = .ok (.iload_n 1, 1) := by decide +kernel
theorem dX6_takeOut_56 : decode cX6_takeOut 56 = .ok (.iload_n 3, 1) := by decide +kernel
theorem dX6_takeOut_57 : decode cX6_takeOut 57 = .ok (.invokevirtual 151, 3) := by decide +kernel
theorem dX6_takeOut_60 : decode cX6_takeOut 60 = .ok (.iload_n 2, 1) := by decide +kernel
theorem dX6_takeOut_61 : decode cX6_takeOut 61 = .ok (.aload_n 0, 1) := by decide +kernel
theorem dX6_takeOut_62 : decode cX6_takeOut 62 = .ok (.iload_n 3, 1) := by decide +kernel
theorem dX6_takeOut_63 : decode cX6_takeOut 63 = .ok (.invokevirtual 148, 3) := by decide +kernel
theorem dX6_takeOut_66 : decode cX6_takeOut 66 = .ok (.iload 4, 2) := by decide +kernel
theorem dX6_takeOut_68 : decode cX6_takeOut 68 = .ok (.if_icmp .ne 7, 3) := by decide +kernel
theorem dX6_takeOut_71 : decode cX6_takeOut 71 = .ok (.iconst 0, 1) := by decide +kernel
theorem dX6_takeOut_72 : decode cX6_takeOut 72 = .ok (.goto 4, 3) := by decide +kernel
theorem dX6_takeOut_75 : decode cX6_takeOut 75 = .ok (.iconst 1, 1) := by decide +kernel
theorem dX6_takeOut_76 : decode cX6_takeOut 76 = .ok (.iadd, 1) := by decide +kernel
theorem dX6_takeOut_77 : decode cX6_takeOut 77 = .ok (.istore_n 2, 1) := by decide +kernel
theorem dX6_takeOut_78 : decode cX6_takeOut 78 = .ok (.iinc 3 1, 3) := by decide +kernel
theorem dX6_takeOut_81 : decode cX6_takeOut 81 = .ok (.goto (-42), 3) := by decide +kernel
theorem dX6_takeOut_84 : decode cX6_takeOut 84 = .ok (.iload_n 2, 1) := by decide +kernel
theorem dX6_takeOut_85 : decode cX6_takeOut 85 = .ok (.ireturn, 1) := by decide +kernel
set_option maxRecDepth 20000 in
theorem ggX6_show_X6_isScript : GoodIn wsX6_show wsX6_isScript := goodIn_r _ [7, 2, 8, 9, 6, 10, 30, 31, 32, 33, 34, 35, 36, 37, 38, 39, 40, 41, 42, 43, 44, 45, 46, 47, 48, 49, 50, 51, 52, 53] (by decide +kernel) (by decide +kernel)
set_option maxRecDepth 20000 in
theorem gX6_show_X6_isScript : GoodIn wsX6_show (wsV RX6 133 RX6 yX6_isScript wsX6_isScript) := goodIn_app (goodIn_of _ (by decide +kernel)) ggX6_show_X6_isScript
set_option maxRecDepth 20000 in
theorem ggX6_show_X6_asks : GoodIn wsX6_show wsX6_asks := goodIn_r _ [14, 15, 30, 31, 32, 33, 34, 35, 36, 37, 38, 39, 40, 41, 42, 43, 44, 45, 46, 47, 48, 49, 50, 51, 52, 53] (by decide +kernel) (by decide +kernel)
set_option maxRecDepth 20000 in
theorem gX6_show_X6_asks : GoodIn wsX6_show (wsV RX6 82 RX6 yX6_asks wsX6_asks) := goodIn_app (goodIn_of _ (by decide +kernel)) ggX6_show_X6_asks
set_option maxRecDepth 20000 in
theorem ggX6_show_X6_gradeOf : GoodIn wsX6_show wsX6_gradeOf := goodIn_r _ [19, 20, 21, 22, 23, 24, 6, 25, 30, 31, 32, 33, 34, 35, 36, 37, 38, 39, 40, 41, 42, 43, 44, 45, 46, 47, 48, 49, 50, 51, 52, 53] (by decide +kernel) (by decide +kernel)
set_option maxRecDepth 20000 in
theorem gX6_show_X6_gradeOf : GoodIn wsX6_show (wsV RX6 148 RX6 yX6_gradeOf wsX6_gradeOf) := goodIn_app (goodIn_of _ (by decide +kernel)) ggX6_show_X6_gradeOf
set_option maxRecDepth 20000 in
theorem ggX6_show_X6_fails : GoodIn wsX6_show wsX6_fails := goodIn_r _ [29, 15, 30, 31, 32, 33, 34, 35, 36, 37, 38, 39, 40, 41, 42, 43, 44, 45, 46, 47, 48, 49, 50, 51, 52, 53] (by decide +kernel) (by decide +kernel)
set_option maxRecDepth 20000 in
theorem gX6_show_X6_fails : GoodIn wsX6_show (wsV RX6 86 RX6 yX6_fails wsX6_fails) := goodIn_app (goodIn_of _ (by decide +kernel)) ggX6_show_X6_fails
theorem dX6_show_0 : decode cX6_show 0 = .ok (.aload_n 0, 1) := by decide +kernel
theorem dX6_show_1 : decode cX6_show 1 = .ok (.aload_n 0, 1) := by decide +kernel
theorem dX6_show_2 : decode cX6_show 2 = .ok (.iload_n 1, 1) := by decide +kernel
theorem dX6_show_3 : decode cX6_show 3 = .ok (.invokevirtual 133, 3) := by decide +kernel
theorem dX6_show_6 : decode cX6_show 6 = .ok (.invokevirtual 82, 3) := by decide +kernel
theorem dX6_show_9 : decode cX6_show 9 = .ok (.ifCond .ne 5, 3) := by decide +kernel
theorem dX6_show_12 : decode cX6_show 12 = .ok (.iconst 0, 1) := by decide +kernel
theorem dX6_show_13 : decode cX6_show 13 = .ok (.ireturn, 1) := by decide +kernel
theorem dX6_show_14 : decode cX6_show 14 = .ok (.aload_n 0, 1) := by decide +kernel
theorem dX6_show_15 : decode cX6_show 15 = .ok (.getfield 59, 3) := by decide +kernel
theorem dX6_show_18 : decode cX6_show 18 = .ok (.iload_n 1, 1) := by decide +kernel
theorem dX6_show_19 : decode cX6_show 19 = .ok (.baload, 1) := by decide +kernel
theorem dX6_show_20 : decode cX6_show 20 = .ok (.ifCond .ne 12, 3) := by decide +kernel
theorem dX6_show_23 : decode cX6_show 23 = .ok (.aload_n 0, 1) := by decide +kernel
theorem dX6_show_24 : decode cX6_show 24 = .ok (.iload_n 1, 1) := by decide +kernel
theorem dX6_show_25 : decode cX6_show 25 = .ok (.invokevirtual 148, 3) := by decide +kernel
theorem dX6_show_28 : decode cX6_show 28 = .ok (.iconst (-1), 1) := by decide +kernel
theorem dX6_show_29 : decode cX6_show 29 = .ok (.if_icmp .ne 9, 3) := by decide +kernel
theorem dX6_show_32 : decode cX6_show 32 = .ok (.aload_n 0, 1) := by decide +kernel
theorem dX6_show_33 : decode cX6_show 33 = .ok (.iconst 2, 1) := by decide +kernel
theorem dX6_show_34 : decode cX6_show 34 = .ok (.invokevirtual 86, 3) := by decide +kernel
theorem dX6_show_37 : decode cX6_show 37 = .ok (.ireturn, 1) := by decide +kernel
theorem dX6_show_38 : decode cX6_show 38 = .ok (.aload_n 0, 1) := by decide +kernel
theorem dX6_show_39 : decode cX6_show 39 = .ok (.getfield 59, 3) := by decide +kernel
theorem dX6_show_42 : decode cX6_show 42 = .ok (.iload_n 1, 1) := by decide +kernel
theorem dX6_show_43 : decode cX6_show 43 = .ok (.iconst 1, 1) := by decide +kernel
theorem dX6_show_44 : decode cX6_show 44 = .ok (.bastore, 1) := by decide +kernel
theorem dX6_show_45 : decode cX6_show 45 = .ok (.iconst 0, 1) := by decide +kernel
theorem dX6_show_46 : decode cX6_show 46 = .ok (.istore_n 2, 1) := by decide +kernel
theorem dX6_show_47 : decode cX6_show 47 = .ok (.iconst 0, 1) := by decide +kernel
theorem dX6_show_48 : decode cX6_show 48 = .ok (.istore_n 3, 1) := by decide +kernel
theorem dX6_show_49 : decode cX6_show 49 = .ok (.iload_n 3, 1) := by decide +kernel
theorem dX6_show_50 : decode cX6_show 50 = .ok (.aload_n 0, 1) := by decide +kernel
theorem dX6_show_51 : decode cX6_show 51 = .ok (.getfield 75, 3) := by decide +kernel
theorem dX6_show_54 : decode cX6_show 54 = .ok (.if_icmp .ge 26, 3) := by decide +kernel
theorem dX6_show_57 : decode cX6_show 57 = .ok (.iload_n 2, 1) := by decide +kernel
theorem dX6_show_58 : decode cX6_show 58 = .ok (.aload_n 0, 1) := by decide +kernel
theorem dX6_show_59 : decode cX6_show 59 = .ok (.getfield 59, 3) := by decide +kernel
theorem dX6_show_62 : decode cX6_show 62 = .ok (.iload_n 3, 1) := by decide +kernel
theorem dX6_show_63 : decode cX6_show 63 = .ok (.baload, 1) := by decide +kernel
theorem dX6_show_64 : decode cX6_show 64 = .ok (.ifCond .eq 7, 3) := by decide +kernel
theorem dX6_show_67 : decode cX6_show 67 = .ok (.iconst 1, 1) := by decide +kernel
theorem dX6_show_68 : decode cX6_show 68 = .ok (.goto 4, 3) := by decide +kernel
theorem dX6_show_71 : decode cX6_show 71 = .ok (.iconst 0, 1) := by decide +kernel
theorem dX6_show_72 : decode cX6_show 72 = .ok (.iadd, 1) := by decide +kernel
theorem dX6_show_73 : decode cX6_show 73 = .ok (.istore_n 2, 1) := by decide +kernel
theorem dX6_show_74 : decode cX6_show 74 = .ok (.iinc 3 1, 3) := by decide +kernel
theorem dX6_show_77 : decode cX6_show 77 = .ok (.goto (-28), 3) := by decide +kernel
theorem dX6_show_80 : decode cX6_show 80 = .ok (.iload_n 2, 1) := by decide +kernel
theorem dX6_show_81 : decode cX6_show 81 = .ok (.ireturn, 1) := by decide +kernel
theorem dX6_pointsOf_0 : decode cX6_pointsOf 0 = .ok (.iconst 0, 1) := by decide +kernel
theorem dX6_pointsOf_1 : decode cX6_pointsOf 1 = .ok (.istore_n 2, 1) := by decide +kernel
theorem dX6_pointsOf_2 : decode cX6_pointsOf 2 = .ok (.iconst 0, 1) := by decide +kernel
theorem dX6_pointsOf_3 : decode cX6_pointsOf 3 = .ok (.istore_n 3, 1) := by decide +kernel
theorem dX6_pointsOf_4 : decode cX6_pointsOf 4 = .ok (.iload_n 3, 1) := by decide +kernel
theorem dX6_pointsOf_5 : decode cX6_pointsOf 5 = .ok (.iconst 4, 1) := by decide +kernel
theorem dX6_pointsOf_6 : decode cX6_pointsOf 6 = .ok (.if_icmp .ge 22, 3) := by decide +kernel
theorem dX6_pointsOf_9 : decode cX6_pointsOf 9 = .ok (.iload_n 2, 1) := by decide +kernel
theorem dX6_pointsOf_10 : decode cX6_pointsOf 10 = .ok (.aload_n 0, 1) := by decide +kernel
theorem dX6_pointsOf_11 : decode cX6_pointsOf 11 = .ok (.getfield 62, 3) := by decide +kernel
theorem dX6_pointsOf_14 : decode cX6_pointsOf 14 = .ok (.iconst 4, 1) := by decide +kernel
theorem dX6_pointsOf_15 : decode cX6_pointsOf 15 = .ok (.iload_n 1, 1) := by decide +kernel
theorem dX6_pointsOf_16 : decode cX6_pointsOf 16 = .ok (.imul, 1) := by decide +kernel
theorem dX6_pointsOf_17 : decode cX6_pointsOf 17 = .ok (.iload_n 3, 1) := by decide +kernel
theorem dX6_pointsOf_18 : decode cX6_pointsOf 18 = .ok (.iadd, 1) := by decide +kernel
theorem dX6_pointsOf_19 : decode cX6_pointsOf 19 = .ok (.iaload, 1) := by decide +kernel
theorem dX6_pointsOf_20 : decode cX6_pointsOf 20 = .ok (.iadd, 1) := by decide +kernel
theorem dX6_pointsOf_21 : decode cX6_pointsOf 21 = .ok (.istore_n 2, 1) := by decide +kernel
theorem dX6_pointsOf_22 : decode cX6_pointsOf 22 = .ok (.iinc 3 1, 3) := by decide +kernel
theorem dX6_pointsOf_25 : decode cX6_pointsOf 25 = .ok (.goto (-21), 3) := by decide +kernel
theorem dX6_pointsOf_28 : decode cX6_pointsOf 28 = .ok (.iload_n 2, 1) := by decide +kernel
theorem dX6_pointsOf_29 : decode cX6_pointsOf 29 = .ok (.ireturn, 1) := by decide +kernel
set_option maxRecDepth 20000 in
theorem ggX6_vote_X6_in : GoodIn wsX6_vote wsX6_in := goodIn_r _ [8] (by decide +kernel) (by decide +kernel)
set_option maxRecDepth 20000 in
theorem gX6_vote_X6_in : GoodIn wsX6_vote (va_wsS RX6 78 yX6_in wsX6_in) := goodIn_app (goodIn_of _ (by decide +kernel)) ggX6_vote_X6_in
set_option maxRecDepth 20000 in
theorem ggX6_vote_X6_isScript : GoodIn wsX6_vote wsX6_isScript := goodIn_r _ [12, 13, 5, 6, 7, 8, 27, 28, 29, 30, 31, 32, 33, 34, 35, 36, 37, 38, 39, 40, 41, 42, 43, 44, 45, 46, 47, 48, 49, 50] (by decide +kernel) (by decide +kernel)
set_option maxRecDepth 20000 in
theorem gX6_vote_X6_isScript : GoodIn wsX6_vote (wsV RX6 133 RX6 yX6_isScript wsX6_isScript) := goodIn_app (goodIn_of _ (by decide +kernel)) ggX6_vote_X6_isScript
set_option maxRecDepth 20000 in
theorem ggX6_vote_X6_asks : GoodIn wsX6_vote wsX6_asks := goodIn_r _ [17, 18, 27, 28, 29, 30, 31, 32, 33, 34, 35, 36, 37, 38, 39, 40, 41, 42, 43, 44, 45, 46, 47, 48, 49, 50] (by decide +kernel) (by decide +kernel)
set_option maxRecDepth 20000 in
theorem gX6_vote_X6_asks : GoodIn wsX6_vote (wsV RX6 82 RX6 yX6_asks wsX6_asks) := goodIn_app (goodIn_of _ (by decide +kernel)) ggX6_vote_X6_asks
set_option maxRecDepth 20000 in
theorem ggX6_vote_X6_fails : GoodIn wsX6_vote wsX6_fails := goodIn_r _ [22, 18, 27, 28, 29, 30, 31, 32, 33, 34, 35, 36, 37, 38, 39, 40, 41, 42, 43, 44, 45, 46, 47, 48, 49, 50] (by decide +kernel) (by decide +kernel)
set_option maxRecDepth 20000 in
theorem gX6_vote_X6_fails : GoodIn wsX6_vote (wsV RX6 86 RX6 yX6_fails wsX6_fails) := goodIn_app (goodIn_of _ (by decide +kernel)) ggX6_vote_X6_fails
set_option maxRecDepth 20000 in
theorem ggX6_vote_X6_pointsOf : GoodIn wsX6_vote wsX6_pointsOf := goodIn_r _ [26, 4, 27, 28, 29, 30, 31, 32, 33, 34, 35, 36, 37, 38, 39, 40, 41, 42, 43, 44, 45, 46, 47, 48, 49, 50] (by decide +kernel) (by decide +kernel)
set_option maxRecDepth 20000 in
theorem gX6_vote_X6_pointsOf : GoodIn wsX6_vote (wsV RX6 155 RX6 yX6_pointsOf wsX6_pointsOf) := goodIn_app (goodIn_of _ (by decide +kernel)) ggX6_vote_X6_pointsOf
theorem dX6_vote_0 : decode cX6_vote 0 = .ok (.aload_n 0, 1) := by decide +kernel
theorem dX6_vote_1 : decode cX6_vote 1 = .ok (.iload_n 1, 1) := by decide +kernel
theorem dX6_vote_2 : decode cX6_vote 2 = .ok (.iconst 0, 1) := by decide +kernel
theorem dX6_vote_3 : decode cX6_vote 3 = .ok (.iconst 3, 1) := by decide +kernel
theorem dX6_vote_4 : decode cX6_vote 4 = .ok (.invokestatic 78, 3) := by decide +kernel
theorem dX6_vote_7 : decode cX6_vote 7 = .ok (.ifCond .eq 15, 3) := by decide +kernel
theorem dX6_vote_10 : decode cX6_vote 10 = .ok (.aload_n 0, 1) := by decide +kernel
theorem dX6_vote_11 : decode cX6_vote 11 = .ok (.iload_n 2, 1) := by decide +kernel
theorem dX6_vote_12 : decode cX6_vote 12 = .ok (.invokevirtual 133, 3) := by decide +kernel
theorem dX6_vote_15 : decode cX6_vote 15 = .ok (.ifCond .eq 7, 3) := by decide +kernel
theorem dX6_vote_18 : decode cX6_vote 18 = .ok (.iconst 1, 1) := by decide +kernel
theorem dX6_vote_19 : decode cX6_vote 19 = .ok (.goto 4, 3) := by decide +kernel
theorem dX6_vote_22 : decode cX6_vote 22 = .ok (.iconst 0, 1) := by decide +kernel
theorem dX6_vote_23 : decode cX6_vote 23 = .ok (.invokevirtual 82, 3) := by decide +kernel
theorem dX6_vote_26 : decode cX6_vote 26 = .ok (.ifCond .ne 5, 3) := by decide +kernel
theorem dX6_vote_29 : decode cX6_vote 29 = .ok (.iconst 0, 1) := by decide +kernel
theorem dX6_vote_30 : decode cX6_vote 30 = .ok (.ireturn, 1) := by decide +kernel
theorem dX6_vote_31 : decode cX6_vote 31 = .ok (.iload_n 3, 1) := by decide +kernel
theorem dX6_vote_32 : decode cX6_vote 32 = .ok (.iconst 0, 1) := by decide +kernel
theorem dX6_vote_33 : decode cX6_vote 33 = .ok (.iconst 5, 1) := by decide +kernel
theorem dX6_vote_34 : decode cX6_vote 34 = .ok (.invokestatic 78, 3) := by decide +kernel
theorem dX6_vote_37 : decode cX6_vote 37 = .ok (.ifCond .ne 9, 3) := by decide +kernel
theorem dX6_vote_40 : decode cX6_vote 40 = .ok (.aload_n 0, 1) := by decide +kernel
theorem dX6_vote_41 : decode cX6_vote 41 = .ok (.iconst 2, 1) := by decide +kernel
theorem dX6_vote_42 : decode cX6_vote 42 = .ok (.invokevirtual 86, 3) := by decide +kernel
theorem dX6_vote_45 : decode cX6_vote 45 = .ok (.ireturn, 1) := by decide +kernel
theorem dX6_vote_46 : decode cX6_vote 46 = .ok (.aload_n 0, 1) := by decide +kernel
theorem dX6_vote_47 : decode cX6_vote 47 = .ok (.getfield 59, 3) := by decide +kernel
theorem dX6_vote_50 : decode cX6_vote 50 = .ok (.iload_n 2, 1) := by decide +kernel
theorem dX6_vote_51 : decode cX6_vote 51 = .ok (.baload, 1) := by decide +kernel
theorem dX6_vote_52 : decode cX6_vote 52 = .ok (.ifCond .eq 18, 3) := by decide +kernel
theorem dX6_vote_55 : decode cX6_vote 55 = .ok (.aload_n 0, 1) := by decide +kernel
theorem dX6_vote_56 : decode cX6_vote 56 = .ok (.getfield 19, 3) := by decide +kernel
theorem dX6_vote_59 : decode cX6_vote 59 = .ok (.aload_n 0, 1) := by decide +kernel
theorem dX6_vote_60 : decode cX6_vote 60 = .ok (.getfield 38, 3) := by decide +kernel
theorem dX6_vote_63 : decode cX6_vote 63 = .ok (.iload_n 2, 1) := by decide +kernel
theorem dX6_vote_64 : decode cX6_vote 64 = .ok (.iaload, 1) := by decide +kernel
theorem dX6_vote_65 : decode cX6_vote 65 = .ok (.iaload, 1) := by decide +kernel
theorem dX6_vote_66 : decode cX6_vote 66 = .ok (.iload_n 1, 1) := by decide +kernel
theorem dX6_vote_67 : decode cX6_vote 67 = .ok (.if_icmp .ne 9, 3) := by decide +kernel
theorem dX6_vote_70 : decode cX6_vote 70 = .ok (.aload_n 0, 1) := by decide +kernel
theorem dX6_vote_71 : decode cX6_vote 71 = .ok (.iconst 3, 1) := by decide +kernel
theorem dX6_vote_72 : decode cX6_vote 72 = .ok (.invokevirtual 86, 3) := by decide +kernel
theorem dX6_vote_75 : decode cX6_vote 75 = .ok (.ireturn, 1) := by decide +kernel
theorem dX6_vote_76 : decode cX6_vote 76 = .ok (.aload_n 0, 1) := by decide +kernel
theorem dX6_vote_77 : decode cX6_vote 77 = .ok (.getfield 62, 3) := by decide +kernel
theorem dX6_vote_80 : decode cX6_vote 80 = .ok (.iconst 4, 1) := by decide +kernel
theorem dX6_vote_81 : decode cX6_vote 81 = .ok (.iload_n 2, 1) := by decide +kernel
theorem dX6_vote_82 : decode cX6_vote 82 = .ok (.imul, 1) := by decide +kernel
theorem dX6_vote_83 : decode cX6_vote 83 = .ok (.iload_n 1, 1) := by decide +kernel
theorem dX6_vote_84 : decode cX6_vote 84 = .ok (.iadd, 1) := by decide +kernel
theorem dX6_vote_85 : decode cX6_vote 85 = .ok (.iload_n 3, 1) := by decide +kernel
theorem dX6_vote_86 : decode cX6_vote 86 = .ok (.iastore, 1) := by decide +kernel
theorem dX6_vote_87 : decode cX6_vote 87 = .ok (.aload_n 0, 1) := by decide +kernel
theorem dX6_vote_88 : decode cX6_vote 88 = .ok (.iload_n 2, 1) := by decide +kernel
theorem dX6_vote_89 : decode cX6_vote 89 = .ok (.invokevirtual 155, 3) := by decide +kernel
theorem dX6_vote_92 : decode cX6_vote 92 = .ok (.ireturn, 1) := by decide +kernel
set_option maxRecDepth 20000 in
theorem ggX6_worthOf_X6_gradeOf : GoodIn wsX6_worthOf wsX6_gradeOf := goodIn_r _ [6, 7, 8, 9, 10, 11, 5, 12, 56, 57, 58, 59, 60, 61, 62, 63, 64, 65, 66, 67, 68, 69, 70, 71, 72, 73, 74, 75, 76, 77, 78, 79] (by decide +kernel) (by decide +kernel)
set_option maxRecDepth 20000 in
theorem gX6_worthOf_X6_gradeOf : GoodIn wsX6_worthOf (wsV RX6 148 RX6 yX6_gradeOf wsX6_gradeOf) := goodIn_app (goodIn_of _ (by decide +kernel)) ggX6_worthOf_X6_gradeOf
set_option maxRecDepth 20000 in
theorem ggX6_worthOf_X6_pointsOf : GoodIn wsX6_worthOf wsX6_pointsOf := goodIn_r _ [16, 17, 56, 57, 58, 59, 60, 61, 62, 63, 64, 65, 66, 67, 68, 69, 70, 71, 72, 73, 74, 75, 76, 77, 78, 79] (by decide +kernel) (by decide +kernel)
set_option maxRecDepth 20000 in
theorem gX6_worthOf_X6_pointsOf : GoodIn wsX6_worthOf (wsV RX6 155 RX6 yX6_pointsOf wsX6_pointsOf) := goodIn_app (goodIn_of _ (by decide +kernel)) ggX6_worthOf_X6_pointsOf
set_option maxRecDepth 20000 in
theorem ggX6_worthOf_X6_allSlips : GoodIn wsX6_worthOf wsX6_allSlips := goodIn_r _ [21, 22, 23, 24, 5, 25, 26, 27, 28, 29, 30, 31, 32, 33, 34, 35, 36, 37, 38, 39, 40, 41, 42, 43, 44, 45, 46, 47, 48, 49, 50, 51, 52, 53, 54, 55, 56, 57, 58, 59, 60, 61, 62, 63, 64, 65, 66, 67, 68, 69, 70, 71, 72, 73, 74, 75, 76, 77, 78, 79] (by decide +kernel) (by decide +kernel)
set_option maxRecDepth 20000 in
theorem gX6_worthOf_X6_allSlips : GoodIn wsX6_worthOf (wsV RX6 136 RX6 yX6_allSlips wsX6_allSlips) := goodIn_app (goodIn_of _ (by decide +kernel)) ggX6_worthOf_X6_allSlips
theorem dX6_worthOf_0 : decode cX6_worthOf 0 = .ok (.aload_n 0, 1) := by decide +kernel
theorem dX6_worthOf_1 : decode cX6_worthOf 1 = .ok (.iload_n 1, 1) := by decide +kernel
theorem dX6_worthOf_2 : decode cX6_worthOf 2 = .ok (.invokevirtual 148, 3) := by decide +kernel
theorem dX6_worthOf_5 : decode cX6_worthOf 5 = .ok (.istore_n 2, 1) := by decide +kernel
theorem dX6_worthOf_6 : decode cX6_worthOf 6 = .ok (.iload_n 2, 1) := by decide +kernel
theorem dX6_worthOf_7 : decode cX6_worthOf 7 = .ok (.iconst (-1), 1) := by decide +kernel
theorem dX6_worthOf_8 : decode cX6_worthOf 8 = .ok (.if_icmp .eq 12, 3) := by decide +kernel
theorem dX6_worthOf_11 : decode cX6_worthOf 11 = .ok (.aload_n 0, 1) := by decide +kernel
theorem dX6_worthOf_12 : decode cX6_worthOf 12 = .ok (.getfield 59, 3) := by decide +kernel
theorem dX6_worthOf_15 : decode cX6_worthOf 15 = .ok (.iload_n 1, 1) := by decide +kernel
theorem dX6_worthOf_16 : decode cX6_worthOf 16 = .ok (.baload, 1) := by decide +kernel
theorem dX6_worthOf_17 : decode cX6_worthOf 17 = .ok (.ifCond .ne 9, 3) := by decide +kernel
theorem dX6_worthOf_20 : decode cX6_worthOf 20 = .ok (.sipush (-9999), 3) := by decide +kernel
theorem dX6_worthOf_23 : decode cX6_worthOf 23 = .ok (.goto 20, 3) := by decide +kernel
theorem dX6_worthOf_26 : decode cX6_worthOf 26 = .ok (.iconst 3, 1) := by decide +kernel
theorem dX6_worthOf_27 : decode cX6_worthOf 27 = .ok (.iload_n 2, 1) := by decide +kernel
theorem dX6_worthOf_28 : decode cX6_worthOf 28 = .ok (.imul, 1) := by decide +kernel
theorem dX6_worthOf_29 : decode cX6_worthOf 29 = .ok (.iconst 2, 1) := by decide +kernel
theorem dX6_worthOf_30 : decode cX6_worthOf 30 = .ok (.aload_n 0, 1) := by decide +kernel
theorem dX6_worthOf_31 : decode cX6_worthOf 31 = .ok (.iload_n 1, 1) := by decide +kernel
theorem dX6_worthOf_32 : decode cX6_worthOf 32 = .ok (.invokevirtual 155, 3) := by decide +kernel
theorem dX6_worthOf_35 : decode cX6_worthOf 35 = .ok (.imul, 1) := by decide +kernel
theorem dX6_worthOf_36 : decode cX6_worthOf 36 = .ok (.iadd, 1) := by decide +kernel
theorem dX6_worthOf_37 : decode cX6_worthOf 37 = .ok (.aload_n 0, 1) := by decide +kernel
theorem dX6_worthOf_38 : decode cX6_worthOf 38 = .ok (.iload_n 1, 1) := by decide +kernel
theorem dX6_worthOf_39 : decode cX6_worthOf 39 = .ok (.invokevirtual 136, 3) := by decide +kernel
theorem dX6_worthOf_42 : decode cX6_worthOf 42 = .ok (.isub, 1) := by decide +kernel
theorem dX6_worthOf_43 : decode cX6_worthOf 43 = .ok (.ireturn, 1) := by decide +kernel
set_option maxRecDepth 20000 in
theorem ggX6_placeOf_X6_worthOf : GoodIn wsX6_placeOf wsX6_worthOf := goodIn_r _ [6, 7, 8, 9, 10, 5, 11, 12, 13, 14, 15, 16, 17, 18, 19, 20, 21, 22, 23, 24, 25, 26, 27, 28, 29, 30, 31, 32, 33, 34, 35, 36, 37, 38, 39, 40, 41, 42, 43, 44, 45, 46, 47, 48, 49, 50, 51, 52, 53, 54, 55, 56, 57, 58, 59, 60, 61, 62, 63, 64, 65, 66, 67, 68, 69, 70, 71, 72, 73, 74, 75, 76, 77, 78, 79, 80, 81, 82, 83, 84] (by decide +kernel) (by decide +kernel)
set_option maxRecDepth 20000 in
theorem gX6_placeOf_X6_worthOf : GoodIn wsX6_placeOf (wsV RX6 158 RX6 yX6_worthOf wsX6_worthOf) := goodIn_app (goodIn_of _ (by decide +kernel)) ggX6_placeOf_X6_worthOf
theorem dX6_placeOf_0 : decode cX6_placeOf 0 = .ok (.aload_n 0, 1) := by decide +kernel
theorem dX6_placeOf_1 : decode cX6_placeOf 1 = .ok (.iload_n 1, 1) := by decide +kernel
theorem dX6_placeOf_2 : decode cX6_placeOf 2 = .ok (.invokevirtual 158, 3) := by decide +kernel
theorem dX6_placeOf_5 : decode cX6_placeOf 5 = .ok (.istore_n 2, 1) := by decide +kernel
theorem dX6_placeOf_6 : decode cX6_placeOf 6 = .ok (.iload_n 2, 1) := by decide +kernel
theorem dX6_placeOf_7 : decode cX6_placeOf 7 = .ok (.sipush (-9999), 3) := by decide +kernel
theorem dX6_placeOf_10 : decode cX6_placeOf 10 = .ok (.if_icmp .ne 5, 3) := by decide +kernel
theorem dX6_placeOf_13 : decode cX6_placeOf 13 = .ok (.iconst (-1), 1) := by decide +kernel
theorem dX6_placeOf_14 : decode cX6_placeOf 14 = .ok (.ireturn, 1) := by decide +kernel
theorem dX6_placeOf_15 : decode cX6_placeOf 15 = .ok (.iconst 1, 1) := by decide +kernel
theorem dX6_placeOf_16 : decode cX6_placeOf 16 = .ok (.istore_n 3, 1) := by decide +kernel
theorem dX6_placeOf_17 : decode cX6_placeOf 17 = .ok (.iconst 0, 1) := by decide +kernel
theorem dX6_placeOf_18 : decode cX6_placeOf 18 = .ok (.istore 4, 2) := by decide +kernel
theorem dX6_placeOf_20 : decode cX6_placeOf 20 = .ok (.iload 4, 2) := by decide +kernel
theorem dX6_placeOf_22 : decode cX6_placeOf 22 = .ok (.aload_n 0, 1) := by decide +kernel
theorem dX6_placeOf_23 : decode cX6_placeOf 23 = .ok (.getfield 75, 3) := by decide +kernel
theorem dX6_placeOf_26 : decode cX6_placeOf 26 = .ok (.if_icmp .ge 63, 3) := by decide +kernel
theorem dX6_placeOf_29 : decode cX6_placeOf 29 = .ok (.aload_n 0, 1) := by decide +kernel
theorem dX6_placeOf_30 : decode cX6_placeOf 30 = .ok (.iload 4, 2) := by decide +kernel
theorem dX6_placeOf_32 : decode cX6_placeOf 32 = .ok (.invokevirtual 158, 3) := by decide +kernel
theorem dX6_placeOf_35 : decode cX6_placeOf 35 = .ok (.istore 5, 2) := by decide +kernel
theorem dX6_placeOf_37 : decode cX6_placeOf 37 = .ok (.iload 5, 2) := by decide +kernel
theorem dX6_placeOf_39 : decode cX6_placeOf 39 = .ok (.sipush (-9999), 3) := by decide +kernel
theorem dX6_placeOf_42 : decode cX6_placeOf 42 = .ok (.if_icmp .eq 25, 3) := by decide +kernel
theorem dX6_placeOf_45 : decode cX6_placeOf 45 = .ok (.iload 5, 2) := by decide +kernel
theorem dX6_placeOf_47 : decode cX6_placeOf 47 = .ok (.iload_n 2, 1) := by decide +kernel
theorem dX6_placeOf_48 : decode cX6_placeOf 48 = .ok (.if_icmp .gt 15, 3) := by decide +kernel
theorem dX6_placeOf_51 : decode cX6_placeOf 51 = .ok (.iload 5, 2) := by decide +kernel
theorem dX6_placeOf_53 : decode cX6_placeOf 53 = .ok (.iload_n 2, 1) := by decide +kernel
theorem dX6_placeOf_54 : decode cX6_placeOf 54 = .ok (.if_icmp .ne 13, 3) := by decide +kernel
theorem dX6_placeOf_57 : decode cX6_placeOf 57 = .ok (.iload 4, 2) := by decide +kernel
theorem dX6_placeOf_59 : decode cX6_placeOf 59 = .ok (.iload_n 1, 1) := by decide +kernel
theorem dX6_placeOf_60 : decode cX6_placeOf 60 = .ok (.if_icmp .ge 7, 3) := by decide +kernel
theorem dX6_placeOf_63 : decode cX6_placeOf 63 = .ok (.iconst 1, 1) := by decide +kernel
theorem dX6_placeOf_64 : decode cX6_placeOf 64 = .ok (.goto 4, 3) := by decide +kernel
theorem dX6_placeOf_67 : decode cX6_placeOf 67 = .ok (.iconst 0, 1) := by decide +kernel
theorem dX6_placeOf_68 : decode cX6_placeOf 68 = .ok (.istore 6, 2) := by decide +kernel
theorem dX6_placeOf_70 : decode cX6_placeOf 70 = .ok (.iload_n 3, 1) := by decide +kernel
theorem dX6_placeOf_71 : decode cX6_placeOf 71 = .ok (.iload 6, 2) := by decide +kernel
theorem dX6_placeOf_73 : decode cX6_placeOf 73 = .ok (.ifCond .eq 7, 3) := by decide +kernel
theorem dX6_placeOf_76 : decode cX6_placeOf 76 = .ok (.iconst 1, 1) := by decide +kernel
theorem dX6_placeOf_77 : decode cX6_placeOf 77 = .ok (.goto 4, 3) := by decide +kernel
theorem dX6_placeOf_80 : decode cX6_placeOf 80 = .ok (.iconst 0, 1) := by decide +kernel
theorem dX6_placeOf_81 : decode cX6_placeOf 81 = .ok (.iadd, 1) := by decide +kernel
theorem dX6_placeOf_82 : decode cX6_placeOf 82 = .ok (.istore_n 3, 1) := by decide +kernel
theorem dX6_placeOf_83 : decode cX6_placeOf 83 = .ok (.iinc 4 1, 3) := by decide +kernel
theorem dX6_placeOf_86 : decode cX6_placeOf 86 = .ok (.goto (-66), 3) := by decide +kernel
theorem dX6_placeOf_89 : decode cX6_placeOf 89 = .ok (.iload_n 3, 1) := by decide +kernel
theorem dX6_placeOf_90 : decode cX6_placeOf 90 = .ok (.ireturn, 1) := by decide +kernel
set_option maxRecDepth 20000 in
theorem ggX6_worth_X6_isScript : GoodIn wsX6_worth wsX6_isScript := goodIn_r _ [5, 6, 7, 8, 4, 9, 73, 74, 75, 76, 77, 78, 79, 80, 81, 82, 83, 84, 85, 86, 87, 88, 89, 90, 91, 92, 93, 94, 95, 96] (by decide +kernel) (by decide +kernel)
set_option maxRecDepth 20000 in
theorem gX6_worth_X6_isScript : GoodIn wsX6_worth (wsV RX6 133 RX6 yX6_isScript wsX6_isScript) := goodIn_app (goodIn_of _ (by decide +kernel)) ggX6_worth_X6_isScript
set_option maxRecDepth 20000 in
theorem ggX6_worth_X6_asks : GoodIn wsX6_worth wsX6_asks := goodIn_r _ [13, 14, 73, 74, 75, 76, 77, 78, 79, 80, 81, 82, 83, 84, 85, 86, 87, 88, 89, 90, 91, 92, 93, 94, 95, 96] (by decide +kernel) (by decide +kernel)
set_option maxRecDepth 20000 in
theorem gX6_worth_X6_asks : GoodIn wsX6_worth (wsV RX6 82 RX6 yX6_asks wsX6_asks) := goodIn_app (goodIn_of _ (by decide +kernel)) ggX6_worth_X6_asks
set_option maxRecDepth 20000 in
theorem ggX6_worth_X6_worthOf : GoodIn wsX6_worth wsX6_worthOf := goodIn_r _ [18, 19, 20, 21, 22, 4, 23, 24, 25, 26, 27, 28, 29, 30, 31, 32, 33, 34, 35, 36, 37, 38, 39, 40, 41, 42, 43, 44, 45, 46, 47, 48, 49, 50, 51, 52, 53, 54, 55, 56, 57, 58, 59, 60, 61, 62, 63, 64, 65, 66, 67, 68, 69, 70, 71, 72, 73, 74, 75, 76, 77, 78, 79, 80, 81, 82, 83, 84, 85, 86, 87, 88, 89, 90, 91, 92, 93, 94, 95, 96] (by decide +kernel) (by decide +kernel)
set_option maxRecDepth 20000 in
theorem gX6_worth_X6_worthOf : GoodIn wsX6_worth (wsV RX6 158 RX6 yX6_worthOf wsX6_worthOf) := goodIn_app (goodIn_of _ (by decide +kernel)) ggX6_worth_X6_worthOf
theorem dX6_worth_0 : decode cX6_worth 0 = .ok (.aload_n 0, 1) := by decide +kernel
theorem dX6_worth_1 : decode cX6_worth 1 = .ok (.aload_n 0, 1) := by decide +kernel
theorem dX6_worth_2 : decode cX6_worth 2 = .ok (.iload_n 1, 1) := by decide +kernel
theorem dX6_worth_3 : decode cX6_worth 3 = .ok (.invokevirtual 133, 3) := by decide +kernel
theorem dX6_worth_6 : decode cX6_worth 6 = .ok (.invokevirtual 82, 3) := by decide +kernel
theorem dX6_worth_9 : decode cX6_worth 9 = .ok (.ifCond .eq 11, 3) := by decide +kernel
theorem dX6_worth_12 : decode cX6_worth 12 = .ok (.aload_n 0, 1) := by decide +kernel
theorem dX6_worth_13 : decode cX6_worth 13 = .ok (.iload_n 1, 1) := by decide +kernel
theorem dX6_worth_14 : decode cX6_worth 14 = .ok (.invokevirtual 158, 3) := by decide +kernel
theorem dX6_worth_17 : decode cX6_worth 17 = .ok (.goto 4, 3) := by decide +kernel
theorem dX6_worth_20 : decode cX6_worth 20 = .ok (.iconst 0, 1) := by decide +kernel
theorem dX6_worth_21 : decode cX6_worth 21 = .ok (.ireturn, 1) := by decide +kernel
set_option maxRecDepth 20000 in
theorem ggX6_place_X6_isScript : GoodIn wsX6_place wsX6_isScript := goodIn_r _ [5, 6, 7, 8, 4, 9, 77, 78, 79, 80, 81, 82, 83, 84, 85, 86, 87, 88, 89, 90, 91, 92, 93, 94, 95, 96, 97, 98, 99, 100] (by decide +kernel) (by decide +kernel)
set_option maxRecDepth 20000 in
theorem gX6_place_X6_isScript : GoodIn wsX6_place (wsV RX6 133 RX6 yX6_isScript wsX6_isScript) := goodIn_app (goodIn_of _ (by decide +kernel)) ggX6_place_X6_isScript
set_option maxRecDepth 20000 in
theorem ggX6_place_X6_asks : GoodIn wsX6_place wsX6_asks := goodIn_r _ [13, 14, 77, 78, 79, 80, 81, 82, 83, 84, 85, 86, 87, 88, 89, 90, 91, 92, 93, 94, 95, 96, 97, 98, 99, 100] (by decide +kernel) (by decide +kernel)
set_option maxRecDepth 20000 in
theorem gX6_place_X6_asks : GoodIn wsX6_place (wsV RX6 82 RX6 yX6_asks wsX6_asks) := goodIn_app (goodIn_of _ (by decide +kernel)) ggX6_place_X6_asks
set_option maxRecDepth 20000 in
theorem ggX6_place_X6_placeOf : GoodIn wsX6_place wsX6_placeOf := goodIn_r _ [18, 6, 19, 20, 21, 4, 22, 23, 24, 25, 26, 27, 28, 29, 30, 31, 32, 33, 34, 35, 36, 37, 38, 39, 40, 41, 42, 43, 44, 45, 46, 47, 48, 49, 50, 51, 52, 53, 54, 55, 56, 57, 58, 59, 60, 61, 62, 63, 64, 65, 66, 67, 68, 69, 70, 71, 72, 73, 74, 75, 76, 77, 78, 79, 80, 81, 82, 83, 84, 85, 86, 87, 88, 89, 90, 91, 92, 93, 94, 95, 96, 97, 98, 99, 100] (by decide +kernel) (by decide +kernel)
set_option maxRecDepth 20000 in
theorem gX6_place_X6_placeOf : GoodIn wsX6_place (wsV RX6 161 RX6 yX6_placeOf wsX6_placeOf) := goodIn_app (goodIn_of _ (by decide +kernel)) ggX6_place_X6_placeOf
theorem dX6_place_0 : decode cX6_place 0 = .ok (.aload_n 0, 1) := by decide +kernel
theorem dX6_place_1 : decode cX6_place 1 = .ok (.aload_n 0, 1) := by decide +kernel
theorem dX6_place_2 : decode cX6_place 2 = .ok (.iload_n 1, 1) := by decide +kernel
theorem dX6_place_3 : decode cX6_place 3 = .ok (.invokevirtual 133, 3) := by decide +kernel
theorem dX6_place_6 : decode cX6_place 6 = .ok (.invokevirtual 82, 3) := by decide +kernel
theorem dX6_place_9 : decode cX6_place 9 = .ok (.ifCond .eq 11, 3) := by decide +kernel
theorem dX6_place_12 : decode cX6_place 12 = .ok (.aload_n 0, 1) := by decide +kernel
theorem dX6_place_13 : decode cX6_place 13 = .ok (.iload_n 1, 1) := by decide +kernel
theorem dX6_place_14 : decode cX6_place 14 = .ok (.invokevirtual 161, 3) := by decide +kernel
theorem dX6_place_17 : decode cX6_place 17 = .ok (.goto 4, 3) := by decide +kernel
theorem dX6_place_20 : decode cX6_place 20 = .ok (.iconst 0, 1) := by decide +kernel
theorem dX6_place_21 : decode cX6_place 21 = .ok (.ireturn, 1) := by decide +kernel
set_option maxRecDepth 20000 in
theorem ggX6_at_X6_asks : GoodIn wsX6_at wsX6_asks := goodIn_r _ [6, 7, 70, 71, 72, 73, 74, 75, 76, 77, 78, 79, 80, 81, 82, 83, 84, 85, 86, 87, 88, 89, 90, 91, 92, 93] (by decide +kernel) (by decide +kernel)
set_option maxRecDepth 20000 in
theorem gX6_at_X6_asks : GoodIn wsX6_at (wsV RX6 82 RX6 yX6_asks wsX6_asks) := goodIn_app (goodIn_of _ (by decide +kernel)) ggX6_at_X6_asks
set_option maxRecDepth 20000 in
theorem ggX6_at_X6_placeOf : GoodIn wsX6_at wsX6_placeOf := goodIn_r _ [11, 1, 12, 13, 14, 5, 15, 16, 17, 18, 19, 20, 21, 22, 23, 24, 25, 26, 27, 28, 29, 30, 31, 32, 33, 34, 35, 36, 37, 38, 39, 40, 41, 42, 43, 44, 45, 46, 47, 48, 49, 50, 51, 52, 53, 54, 55, 56, 57, 58, 59, 60, 61, 62, 63, 64, 65, 66, 67, 68, 69, 70, 71, 72, 73, 74, 75, 76, 77, 78, 79, 80, 81, 82, 83, 84, 85, 86, 87, 88, 89, 90, 91, 92, 93] (by decide +kernel) (by decide +kernel)
set_option maxRecDepth 20000 in
theorem gX6_at_X6_placeOf : GoodIn wsX6_at (wsV RX6 161 RX6 yX6_placeOf wsX6_placeOf) := goodIn_app (goodIn_of _ (by decide +kernel)) ggX6_at_X6_placeOf
theorem dX6_at_0 : decode cX6_at 0 = .ok (.aload_n 0, 1) := by decide +kernel
theorem dX6_at_1 : decode cX6_at 1 = .ok (.iload_n 1, 1) := by decide +kernel
theorem dX6_at_2 : decode cX6_at 2 = .ok (.iconst 1, 1) := by decide +kernel
theorem dX6_at_3 : decode cX6_at 3 = .ok (.if_icmp .lt 7, 3) := by decide +kernel
theorem dX6_at_6 : decode cX6_at 6 = .ok (.iconst 1, 1) := by decide +kernel
theorem dX6_at_7 : decode cX6_at 7 = .ok (.goto 4, 3) := by decide +kernel
theorem dX6_at_10 : decode cX6_at 10 = .ok (.iconst 0, 1) := by decide +kernel
theorem dX6_at_11 : decode cX6_at 11 = .ok (.invokevirtual 82, 3) := by decide +kernel
theorem dX6_at_14 : decode cX6_at 14 = .ok (.ifCond .ne 5, 3) := by decide +kernel
theorem dX6_at_17 : decode cX6_at 17 = .ok (.iconst 0, 1) := by decide +kernel
theorem dX6_at_18 : decode cX6_at 18 = .ok (.ireturn, 1) := by decide +kernel
theorem dX6_at_19 : decode cX6_at 19 = .ok (.iconst (-1), 1) := by decide +kernel
theorem dX6_at_20 : decode cX6_at 20 = .ok (.istore_n 2, 1) := by decide +kernel
theorem dX6_at_21 : decode cX6_at 21 = .ok (.iconst 0, 1) := by decide +kernel
theorem dX6_at_22 : decode cX6_at 22 = .ok (.istore_n 3, 1) := by decide +kernel
theorem dX6_at_23 : decode cX6_at 23 = .ok (.iload_n 3, 1) := by decide +kernel
theorem dX6_at_24 : decode cX6_at 24 = .ok (.aload_n 0, 1) := by decide +kernel
theorem dX6_at_25 : decode cX6_at 25 = .ok (.getfield 75, 3) := by decide +kernel
theorem dX6_at_28 : decode cX6_at 28 = .ok (.if_icmp .ge 24, 3) := by decide +kernel
theorem dX6_at_31 : decode cX6_at 31 = .ok (.aload_n 0, 1) := by decide +kernel
theorem dX6_at_32 : decode cX6_at 32 = .ok (.iload_n 3, 1) := by decide +kernel
theorem dX6_at_33 : decode cX6_at 33 = .ok (.invokevirtual 161, 3) := by decide +kernel
theorem dX6_at_36 : decode cX6_at 36 = .ok (.iload_n 1, 1) := by decide +kernel
theorem dX6_at_37 : decode cX6_at 37 = .ok (.if_icmp .ne 7, 3) := by decide +kernel
theorem dX6_at_40 : decode cX6_at 40 = .ok (.iload_n 3, 1) := by decide +kernel
theorem dX6_at_41 : decode cX6_at 41 = .ok (.goto 4, 3) := by decide +kernel
theorem dX6_at_44 : decode cX6_at 44 = .ok (.iload_n 2, 1) := by decide +kernel
theorem dX6_at_45 : decode cX6_at 45 = .ok (.istore_n 2, 1) := by decide +kernel
theorem dX6_at_46 : decode cX6_at 46 = .ok (.iinc 3 1, 3) := by decide +kernel
theorem dX6_at_49 : decode cX6_at 49 = .ok (.goto (-26), 3) := by decide +kernel
theorem dX6_at_52 : decode cX6_at 52 = .ok (.iload_n 2, 1) := by decide +kernel
theorem dX6_at_53 : decode cX6_at 53 = .ok (.ireturn, 1) := by decide +kernel
