theorem dX0_init_0 : decode cX0_init 0 = .ok (.aload_n 0, 1) := by decide +kernel
theorem dX0_init_1 : decode cX0_init 1 = .ok (.invokespecial 3, 3) := by decide +kernel
theorem dX0_init_4 : decode cX0_init 4 = .ok (.aload_n 0, 1) := by decide +kernel
theorem dX0_init_5 : decode cX0_init 5 = .ok (.iconst 3, 1) := by decide +kernel
theorem dX0_init_6 : decode cX0_init 6 = .ok (.newarray .int, 2) := by decide +kernel
theorem dX0_init_8 : decode cX0_init 8 = .ok (.putfield 9, 3) := by decide +kernel
theorem dX0_init_11 : decode cX0_init 11 = .ok (.aload_n 0, 1) := by decide +kernel
theorem dX0_init_12 : decode cX0_init 12 = .ok (.iconst 3, 1) := by decide +kernel
theorem dX0_init_13 : decode cX0_init 13 = .ok (.newarray .int, 2) := by decide +kernel
theorem dX0_init_15 : decode cX0_init 15 = .ok (.putfield 15, 3) := by decide +kernel
theorem dX0_init_18 : decode cX0_init 18 = .ok (.aload_n 0, 1) := by decide +kernel
theorem dX0_init_19 : decode cX0_init 19 = .ok (.iconst 0, 1) := by decide +kernel
theorem dX0_init_20 : decode cX0_init 20 = .ok (.putfield 18, 3) := by decide +kernel
theorem dX0_init_23 : decode cX0_init 23 = .ok (.return_, 1) := by decide +kernel
theorem dX0_size_0 : decode cX0_size 0 = .ok (.aload_n 0, 1) := by decide +kernel
theorem dX0_size_1 : decode cX0_size 1 = .ok (.getfield 18, 3) := by decide +kernel
theorem dX0_size_4 : decode cX0_size 4 = .ok (.ireturn, 1) := by decide +kernel
theorem dX0_hasOneOf_0 : decode cX0_hasOneOf 0 = .ok (.iconst 0, 1) := by decide +kernel
theorem dX0_hasOneOf_1 : decode cX0_hasOneOf 1 = .ok (.istore_n 2, 1) := by decide +kernel
theorem dX0_hasOneOf_2 : decode cX0_hasOneOf 2 = .ok (.iload_n 2, 1) := by decide +kernel
theorem dX0_hasOneOf_3 : decode cX0_hasOneOf 3 = .ok (.aload_n 0, 1) := by decide +kernel
theorem dX0_hasOneOf_4 : decode cX0_hasOneOf 4 = .ok (.getfield 18, 3) := by decide +kernel
theorem dX0_hasOneOf_7 : decode cX0_hasOneOf 7 = .ok (.if_icmp .ge 21, 3) := by decide +kernel
theorem dX0_hasOneOf_10 : decode cX0_hasOneOf 10 = .ok (.aload_n 0, 1) := by decide +kernel
theorem dX0_hasOneOf_11 : decode cX0_hasOneOf 11 = .ok (.getfield 9, 3) := by decide +kernel
theorem dX0_hasOneOf_14 : decode cX0_hasOneOf 14 = .ok (.iload_n 2, 1) := by decide +kernel
theorem dX0_hasOneOf_15 : decode cX0_hasOneOf 15 = .ok (.iaload, 1) := by decide +kernel
theorem dX0_hasOneOf_16 : decode cX0_hasOneOf 16 = .ok (.iload_n 1, 1) := by decide +kernel
theorem dX0_hasOneOf_17 : decode cX0_hasOneOf 17 = .ok (.if_icmp .ne 5, 3) := by decide +kernel
theorem dX0_hasOneOf_20 : decode cX0_hasOneOf 20 = .ok (.iconst 1, 1) := by decide +kernel
theorem dX0_hasOneOf_21 : decode cX0_hasOneOf 21 = .ok (.ireturn, 1) := by decide +kernel
theorem dX0_hasOneOf_22 : decode cX0_hasOneOf 22 = .ok (.iinc 2 1, 3) := by decide +kernel
theorem dX0_hasOneOf_25 : decode cX0_hasOneOf 25 = .ok (.goto (-23), 3) := by decide +kernel
theorem dX0_hasOneOf_28 : decode cX0_hasOneOf 28 = .ok (.iconst 0, 1) := by decide +kernel
theorem dX0_hasOneOf_29 : decode cX0_hasOneOf 29 = .ok (.ireturn, 1) := by decide +kernel
theorem dX0_add_0 : decode cX0_add 0 = .ok (.aload_n 0, 1) := by decide +kernel
theorem dX0_add_1 : decode cX0_add 1 = .ok (.getfield 18, 3) := by decide +kernel
theorem dX0_add_4 : decode cX0_add 4 = .ok (.iconst 3, 1) := by decide +kernel
theorem dX0_add_5 : decode cX0_add 5 = .ok (.if_icmp .ge 33, 3) := by decide +kernel
theorem dX0_add_8 : decode cX0_add 8 = .ok (.aload_n 0, 1) := by decide +kernel
theorem dX0_add_9 : decode cX0_add 9 = .ok (.getfield 9, 3) := by decide +kernel
theorem dX0_add_12 : decode cX0_add 12 = .ok (.aload_n 0, 1) := by decide +kernel
theorem dX0_add_13 : decode cX0_add 13 = .ok (.getfield 18, 3) := by decide +kernel
theorem dX0_add_16 : decode cX0_add 16 = .ok (.iload_n 1, 1) := by decide +kernel
theorem dX0_add_17 : decode cX0_add 17 = .ok (.iastore, 1) := by decide +kernel
theorem dX0_add_18 : decode cX0_add 18 = .ok (.aload_n 0, 1) := by decide +kernel
theorem dX0_add_19 : decode cX0_add 19 = .ok (.getfield 15, 3) := by decide +kernel
theorem dX0_add_22 : decode cX0_add 22 = .ok (.aload_n 0, 1) := by decide +kernel
theorem dX0_add_23 : decode cX0_add 23 = .ok (.getfield 18, 3) := by decide +kernel
theorem dX0_add_26 : decode cX0_add 26 = .ok (.iload_n 2, 1) := by decide +kernel
theorem dX0_add_27 : decode cX0_add 27 = .ok (.iastore, 1) := by decide +kernel
theorem dX0_add_28 : decode cX0_add 28 = .ok (.aload_n 0, 1) := by decide +kernel
theorem dX0_add_29 : decode cX0_add 29 = .ok (.dup, 1) := by decide +kernel
theorem dX0_add_30 : decode cX0_add 30 = .ok (.getfield 18, 3) := by decide +kernel
theorem dX0_add_33 : decode cX0_add 33 = .ok (.iconst 1, 1) := by decide +kernel
theorem dX0_add_34 : decode cX0_add 34 = .ok (.iadd, 1) := by decide +kernel
theorem dX0_add_35 : decode cX0_add 35 = .ok (.putfield 18, 3) := by decide +kernel
theorem dX0_add_38 : decode cX0_add 38 = .ok (.return_, 1) := by decide +kernel
theorem dX0_removeOf_0 : decode cX0_removeOf 0 = .ok (.iconst 0, 1) := by decide +kernel
theorem dX0_removeOf_1 : decode cX0_removeOf 1 = .ok (.istore_n 2, 1) := by decide +kernel
theorem dX0_removeOf_2 : decode cX0_removeOf 2 = .ok (.iconst 0, 1) := by decide +kernel
theorem dX0_removeOf_3 : decode cX0_removeOf 3 = .ok (.istore_n 3, 1) := by decide +kernel
theorem dX0_removeOf_4 : decode cX0_removeOf 4 = .ok (.iload_n 3, 1) := by decide +kernel
theorem dX0_removeOf_5 : decode cX0_removeOf 5 = .ok (.aload_n 0, 1) := by decide +kernel
theorem dX0_removeOf_6 : decode cX0_removeOf 6 = .ok (.getfield 18, 3) := by decide +kernel
theorem dX0_removeOf_9 : decode cX0_removeOf 9 = .ok (.if_icmp .ge 46, 3) := by decide +kernel
theorem dX0_removeOf_12 : decode cX0_removeOf 12 = .ok (.aload_n 0, 1) := by decide +kernel
theorem dX0_removeOf_13 : decode cX0_removeOf 13 = .ok (.getfield 9, 3) := by decide +kernel
theorem dX0_removeOf_16 : decode cX0_removeOf 16 = .ok (.iload_n 3, 1) := by decide +kernel
theorem dX0_removeOf_17 : decode cX0_removeOf 17 = .ok (.iaload, 1) := by decide +kernel
theorem dX0_removeOf_18 : decode cX0_removeOf 18 = .ok (.iload_n 1, 1) := by decide +kernel
theorem dX0_removeOf_19 : decode cX0_removeOf 19 = .ok (.if_icmp .eq 30, 3) := by decide +kernel
theorem dX0_removeOf_22 : decode cX0_removeOf 22 = .ok (.aload_n 0, 1) := by decide +kernel
theorem dX0_removeOf_23 : decode cX0_removeOf 23 = .ok (.getfield 9, 3) := by decide +kernel
theorem dX0_removeOf_26 : decode cX0_removeOf 26 = .ok (.iload_n 2, 1) := by decide +kernel
theorem dX0_removeOf_27 : decode cX0_removeOf 27 = .ok (.aload_n 0, 1) := by decide +kernel
theorem dX0_removeOf_28 : decode cX0_removeOf 28 = .ok (.getfield 9, 3) := by decide +kernel
theorem dX0_removeOf_31 : decode cX0_removeOf 31 = .ok (.iload_n 3, 1) := by decide +kernel
theorem dX0_removeOf_32 : decode cX0_removeOf 32 = .ok (.iaload, 1) := by decide +kernel
theorem dX0_removeOf_33 : decode cX0_removeOf 33 = .ok (.iastore, 1) := by decide +kernel
theorem dX0_removeOf_34 : decode cX0_removeOf 34 = .ok (.aload_n 0, 1) := by decide +kernel
theorem dX0_removeOf_35 : decode cX0_removeOf 35 = .ok (.getfield 15, 3) := by decide +kernel
theorem dX0_removeOf_38 : decode cX0_removeOf 38 = .ok (.iload_n 2, 1) := by decide +kernel
theorem dX0_removeOf_39 : decode cX0_removeOf 39 = .ok (.aload_n 0, 1) := by decide +kernel
theorem dX0_removeOf_40 : decode cX0_removeOf 40 = .ok (.getfield 15, 3) := by decide +kernel
theorem dX0_removeOf_43 : decode cX0_removeOf 43 = .ok (.iload_n 3, 1) := by decide +kernel
theorem dX0_removeOf_44 : decode cX0_removeOf 44 = .ok (.iaload, 1) := by decide +kernel
theorem dX0_removeOf_45 : decode cX0_removeOf 45 = .ok (.iastore, 1) := by decide +kernel
theorem dX0_removeOf_46 : decode cX0_removeOf 46 = .ok (.iinc 2 1, 3) := by decide +kernel
theorem dX0_removeOf_49 : decode cX0_removeOf 49 = .ok (.iinc 3 1, 3) := by decide +kernel
theorem dX0_removeOf_52 : decode cX0_removeOf 52 = .ok (.goto (-48), 3) := by decide +kernel
theorem dX0_removeOf_55 : decode cX0_removeOf 55 = .ok (.aload_n 0, 1) := by decide +kernel
theorem dX0_removeOf_56 : decode cX0_removeOf 56 = .ok (.iload_n 2, 1) := by decide +kernel
theorem dX0_removeOf_57 : decode cX0_removeOf 57 = .ok (.putfield 18, 3) := by decide +kernel
theorem dX0_removeOf_60 : decode cX0_removeOf 60 = .ok (.return_, 1) := by decide +kernel
theorem dX0_lacking_0 : decode cX0_lacking 0 = .ok (.aload_n 0, 1) := by decide +kernel
theorem dX0_lacking_1 : decode cX0_lacking 1 = .ok (.getfield 18, 3) := by decide +kernel
theorem dX0_lacking_4 : decode cX0_lacking 4 = .ok (.iconst 2, 1) := by decide +kernel
theorem dX0_lacking_5 : decode cX0_lacking 5 = .ok (.if_icmp .lt 27, 3) := by decide +kernel
theorem dX0_lacking_8 : decode cX0_lacking 8 = .ok (.aload_n 0, 1) := by decide +kernel
theorem dX0_lacking_9 : decode cX0_lacking 9 = .ok (.getfield 15, 3) := by decide +kernel
theorem dX0_lacking_12 : decode cX0_lacking 12 = .ok (.iconst 0, 1) := by decide +kernel
theorem dX0_lacking_13 : decode cX0_lacking 13 = .ok (.iaload, 1) := by decide +kernel
theorem dX0_lacking_14 : decode cX0_lacking 14 = .ok (.aload_n 0, 1) := by decide +kernel
theorem dX0_lacking_15 : decode cX0_lacking 15 = .ok (.getfield 15, 3) := by decide +kernel
theorem dX0_lacking_18 : decode cX0_lacking 18 = .ok (.iconst 1, 1) := by decide +kernel
theorem dX0_lacking_19 : decode cX0_lacking 19 = .ok (.iaload, 1) := by decide +kernel
theorem dX0_lacking_20 : decode cX0_lacking 20 = .ok (.isub, 1) := by decide +kernel
theorem dX0_lacking_21 : decode cX0_lacking 21 = .ok (.invokestatic 22, 3) := by decide +kernel
theorem dX0_lacking_24 : decode cX0_lacking 24 = .ok (.iconst 3, 1) := by decide +kernel
theorem dX0_lacking_25 : decode cX0_lacking 25 = .ok (.if_icmp .le 7, 3) := by decide +kernel
theorem dX0_lacking_28 : decode cX0_lacking 28 = .ok (.iconst 1, 1) := by decide +kernel
theorem dX0_lacking_29 : decode cX0_lacking 29 = .ok (.goto 4, 3) := by decide +kernel
theorem dX0_lacking_32 : decode cX0_lacking 32 = .ok (.iconst 0, 1) := by decide +kernel
theorem dX0_lacking_33 : decode cX0_lacking 33 = .ok (.istore_n 1, 1) := by decide +kernel
theorem dX0_lacking_34 : decode cX0_lacking 34 = .ok (.iload_n 1, 1) := by decide +kernel
theorem dX0_lacking_35 : decode cX0_lacking 35 = .ok (.ifCond .eq 7, 3) := by decide +kernel
theorem dX0_lacking_38 : decode cX0_lacking 38 = .ok (.iconst 3, 1) := by decide +kernel
theorem dX0_lacking_39 : decode cX0_lacking 39 = .ok (.goto 4, 3) := by decide +kernel
theorem dX0_lacking_42 : decode cX0_lacking 42 = .ok (.iconst 2, 1) := by decide +kernel
theorem dX0_lacking_43 : decode cX0_lacking 43 = .ok (.aload_n 0, 1) := by decide +kernel
theorem dX0_lacking_44 : decode cX0_lacking 44 = .ok (.getfield 18, 3) := by decide +kernel
theorem dX0_lacking_47 : decode cX0_lacking 47 = .ok (.isub, 1) := by decide +kernel
theorem dX0_lacking_48 : decode cX0_lacking 48 = .ok (.ireturn, 1) := by decide +kernel
set_option maxRecDepth 20000 in
theorem ggX0_result_X0_lacking : GoodIn wsX0_result wsX0_lacking := goodIn_r _ [14, 9, 1, 15, 16, 4, 17, 18, 19, 20] (by decide +kernel) (by decide +kernel)
set_option maxRecDepth 20000 in
theorem gX0_result_X0_lacking : GoodIn wsX0_result (wsV RX0 28 RX0 yX0_lacking wsX0_lacking) := goodIn_app (goodIn_of _ (by decide +kernel)) ggX0_result_X0_lacking
theorem dX0_result_0 : decode cX0_result 0 = .ok (.aload_n 0, 1) := by decide +kernel
theorem dX0_result_1 : decode cX0_result 1 = .ok (.invokevirtual 28, 3) := by decide +kernel
theorem dX0_result_4 : decode cX0_result 4 = .ok (.ifCond .le 5, 3) := by decide +kernel
theorem dX0_result_7 : decode cX0_result 7 = .ok (.iconst (-1), 1) := by decide +kernel
theorem dX0_result_8 : decode cX0_result 8 = .ok (.ireturn, 1) := by decide +kernel
theorem dX0_result_9 : decode cX0_result 9 = .ok (.aload_n 0, 1) := by decide +kernel
theorem dX0_result_10 : decode cX0_result 10 = .ok (.getfield 15, 3) := by decide +kernel
theorem dX0_result_13 : decode cX0_result 13 = .ok (.iconst 0, 1) := by decide +kernel
theorem dX0_result_14 : decode cX0_result 14 = .ok (.iaload, 1) := by decide +kernel
theorem dX0_result_15 : decode cX0_result 15 = .ok (.aload_n 0, 1) := by decide +kernel
theorem dX0_result_16 : decode cX0_result 16 = .ok (.getfield 15, 3) := by decide +kernel
theorem dX0_result_19 : decode cX0_result 19 = .ok (.iconst 1, 1) := by decide +kernel
theorem dX0_result_20 : decode cX0_result 20 = .ok (.iaload, 1) := by decide +kernel
theorem dX0_result_21 : decode cX0_result 21 = .ok (.invokestatic 32, 3) := by decide +kernel
theorem dX0_result_24 : decode cX0_result 24 = .ok (.istore_n 1, 1) := by decide +kernel
theorem dX0_result_25 : decode cX0_result 25 = .ok (.aload_n 0, 1) := by decide +kernel
theorem dX0_result_26 : decode cX0_result 26 = .ok (.getfield 15, 3) := by decide +kernel
theorem dX0_result_29 : decode cX0_result 29 = .ok (.iconst 0, 1) := by decide +kernel
theorem dX0_result_30 : decode cX0_result 30 = .ok (.iaload, 1) := by decide +kernel
theorem dX0_result_31 : decode cX0_result 31 = .ok (.aload_n 0, 1) := by decide +kernel
theorem dX0_result_32 : decode cX0_result 32 = .ok (.getfield 15, 3) := by decide +kernel
theorem dX0_result_35 : decode cX0_result 35 = .ok (.iconst 1, 1) := by decide +kernel
theorem dX0_result_36 : decode cX0_result 36 = .ok (.iaload, 1) := by decide +kernel
theorem dX0_result_37 : decode cX0_result 37 = .ok (.invokestatic 36, 3) := by decide +kernel
theorem dX0_result_40 : decode cX0_result 40 = .ok (.istore_n 2, 1) := by decide +kernel
theorem dX0_result_41 : decode cX0_result 41 = .ok (.aload_n 0, 1) := by decide +kernel
theorem dX0_result_42 : decode cX0_result 42 = .ok (.getfield 18, 3) := by decide +kernel
theorem dX0_result_45 : decode cX0_result 45 = .ok (.iconst 3, 1) := by decide +kernel
theorem dX0_result_46 : decode cX0_result 46 = .ok (.if_icmp .ge 9, 3) := by decide +kernel
theorem dX0_result_49 : decode cX0_result 49 = .ok (.iload_n 1, 1) := by decide +kernel
theorem dX0_result_50 : decode cX0_result 50 = .ok (.iload_n 2, 1) := by decide +kernel
theorem dX0_result_51 : decode cX0_result 51 = .ok (.iadd, 1) := by decide +kernel
theorem dX0_result_52 : decode cX0_result 52 = .ok (.iconst 2, 1) := by decide +kernel
theorem dX0_result_53 : decode cX0_result 53 = .ok (.idiv, 1) := by decide +kernel
theorem dX0_result_54 : decode cX0_result 54 = .ok (.ireturn, 1) := by decide +kernel
theorem dX0_result_55 : decode cX0_result 55 = .ok (.iload_n 1, 1) := by decide +kernel
theorem dX0_result_56 : decode cX0_result 56 = .ok (.iload_n 2, 1) := by decide +kernel
theorem dX0_result_57 : decode cX0_result 57 = .ok (.aload_n 0, 1) := by decide +kernel
theorem dX0_result_58 : decode cX0_result 58 = .ok (.getfield 15, 3) := by decide +kernel
theorem dX0_result_61 : decode cX0_result 61 = .ok (.iconst 2, 1) := by decide +kernel
theorem dX0_result_62 : decode cX0_result 62 = .ok (.iaload, 1) := by decide +kernel
theorem dX0_result_63 : decode cX0_result 63 = .ok (.invokestatic 32, 3) := by decide +kernel
theorem dX0_result_66 : decode cX0_result 66 = .ok (.invokestatic 36, 3) := by decide +kernel
theorem dX0_result_69 : decode cX0_result 69 = .ok (.ireturn, 1) := by decide +kernel
theorem dX1_init_0 : decode cX1_init 0 = .ok (.aload_n 0, 1) := by decide +kernel
theorem dX1_init_1 : decode cX1_init 1 = .ok (.invokespecial 3, 3) := by decide +kernel
theorem dX1_init_4 : decode cX1_init 4 = .ok (.aload_n 0, 1) := by decide +kernel
theorem dX1_init_5 : decode cX1_init 5 = .ok (.iconst 3, 1) := by decide +kernel
theorem dX1_init_6 : decode cX1_init 6 = .ok (.newarray .int, 2) := by decide +kernel
theorem dX1_init_8 : decode cX1_init 8 = .ok (.putfield 9, 3) := by decide +kernel
theorem dX1_init_11 : decode cX1_init 11 = .ok (.aload_n 0, 1) := by decide +kernel
theorem dX1_init_12 : decode cX1_init 12 = .ok (.iconst 3, 1) := by decide +kernel
theorem dX1_init_13 : decode cX1_init 13 = .ok (.newarray .int, 2) := by decide +kernel
theorem dX1_init_15 : decode cX1_init 15 = .ok (.putfield 15, 3) := by decide +kernel
theorem dX1_init_18 : decode cX1_init 18 = .ok (.return_, 1) := by decide +kernel
theorem dX1_countOf_0 : decode cX1_countOf 0 = .ok (.iload_n 1, 1) := by decide +kernel
theorem dX1_countOf_1 : decode cX1_countOf 1 = .ok (.ifCond .lt 8, 3) := by decide +kernel
theorem dX1_countOf_4 : decode cX1_countOf 4 = .ok (.iload_n 1, 1) := by decide +kernel
theorem dX1_countOf_5 : decode cX1_countOf 5 = .ok (.iconst 3, 1) := by decide +kernel
theorem dX1_countOf_6 : decode cX1_countOf 6 = .ok (.if_icmp .lt 5, 3) := by decide +kernel
theorem dX1_countOf_9 : decode cX1_countOf 9 = .ok (.iconst 0, 1) := by decide +kernel
theorem dX1_countOf_10 : decode cX1_countOf 10 = .ok (.ireturn, 1) := by decide +kernel
theorem dX1_countOf_11 : decode cX1_countOf 11 = .ok (.iload_n 2, 1) := by decide +kernel
theorem dX1_countOf_12 : decode cX1_countOf 12 = .ok (.ifCond .eq 12, 3) := by decide +kernel
theorem dX1_countOf_15 : decode cX1_countOf 15 = .ok (.aload_n 0, 1) := by decide +kernel
theorem dX1_countOf_16 : decode cX1_countOf 16 = .ok (.getfield 9, 3) := by decide +kernel
theorem dX1_countOf_19 : decode cX1_countOf 19 = .ok (.iload_n 1, 1) := by decide +kernel
theorem dX1_countOf_20 : decode cX1_countOf 20 = .ok (.iaload, 1) := by decide +kernel
theorem dX1_countOf_21 : decode cX1_countOf 21 = .ok (.goto 9, 3) := by decide +kernel
theorem dX1_countOf_24 : decode cX1_countOf 24 = .ok (.aload_n 0, 1) := by decide +kernel
theorem dX1_countOf_25 : decode cX1_countOf 25 = .ok (.getfield 15, 3) := by decide +kernel
theorem dX1_countOf_28 : decode cX1_countOf 28 = .ok (.iload_n 1, 1) := by decide +kernel
theorem dX1_countOf_29 : decode cX1_countOf 29 = .ok (.iaload, 1) := by decide +kernel
theorem dX1_countOf_30 : decode cX1_countOf 30 = .ok (.ireturn, 1) := by decide +kernel
theorem dX1_add_0 : decode cX1_add 0 = .ok (.iload_n 1, 1) := by decide +kernel
theorem dX1_add_1 : decode cX1_add 1 = .ok (.ifCond .lt 8, 3) := by decide +kernel
theorem dX1_add_4 : decode cX1_add 4 = .ok (.iload_n 1, 1) := by decide +kernel
theorem dX1_add_5 : decode cX1_add 5 = .ok (.iconst 3, 1) := by decide +kernel
theorem dX1_add_6 : decode cX1_add 6 = .ok (.if_icmp .lt 4, 3) := by decide +kernel
theorem dX1_add_9 : decode cX1_add 9 = .ok (.return_, 1) := by decide +kernel
theorem dX1_add_10 : decode cX1_add 10 = .ok (.iload_n 2, 1) := by decide +kernel
theorem dX1_add_11 : decode cX1_add 11 = .ok (.ifCond .eq 16, 3) := by decide +kernel
theorem dX1_add_14 : decode cX1_add 14 = .ok (.aload_n 0, 1) := by decide +kernel
theorem dX1_add_15 : decode cX1_add 15 = .ok (.getfield 9, 3) := by decide +kernel
theorem dX1_add_18 : decode cX1_add 18 = .ok (.iload_n 1, 1) := by decide +kernel
theorem dX1_add_19 : decode cX1_add 19 = .ok (.dup2, 1) := by decide +kernel
theorem dX1_add_20 : decode cX1_add 20 = .ok (.iaload, 1) := by decide +kernel
theorem dX1_add_21 : decode cX1_add 21 = .ok (.iload_n 3, 1) := by decide +kernel
theorem dX1_add_22 : decode cX1_add 22 = .ok (.iadd, 1) := by decide +kernel
theorem dX1_add_23 : decode cX1_add 23 = .ok (.iastore, 1) := by decide +kernel
theorem dX1_add_24 : decode cX1_add 24 = .ok (.goto 13, 3) := by decide +kernel
theorem dX1_add_27 : decode cX1_add 27 = .ok (.aload_n 0, 1) := by decide +kernel
theorem dX1_add_28 : decode cX1_add 28 = .ok (.getfield 15, 3) := by decide +kernel
theorem dX1_add_31 : decode cX1_add 31 = .ok (.iload_n 1, 1) := by decide +kernel
theorem dX1_add_32 : decode cX1_add 32 = .ok (.dup2, 1) := by decide +kernel
theorem dX1_add_33 : decode cX1_add 33 = .ok (.iaload, 1) := by decide +kernel
theorem dX1_add_34 : decode cX1_add 34 = .ok (.iload_n 3, 1) := by decide +kernel
theorem dX1_add_35 : decode cX1_add 35 = .ok (.iadd, 1) := by decide +kernel
theorem dX1_add_36 : decode cX1_add 36 = .ok (.iastore, 1) := by decide +kernel
theorem dX1_add_37 : decode cX1_add 37 = .ok (.return_, 1) := by decide +kernel
set_option maxRecDepth 20000 in
theorem ggX1_bandFor_X1_countOf : GoodIn wsX1_bandFor wsX1_countOf := goodIn_r _ [5, 6, 7, 8, 9] (by decide +kernel) (by decide +kernel)
set_option maxRecDepth 20000 in
theorem gX1_bandFor_X1_countOf : GoodIn wsX1_bandFor (wsV RX1 18 RX1 yX1_countOf wsX1_countOf) := goodIn_app (goodIn_of _ (by decide +kernel)) ggX1_bandFor_X1_countOf
theorem dX1_bandFor_0 : decode cX1_bandFor 0 = .ok (.iload_n 1, 1) := by decide +kernel
theorem dX1_bandFor_1 : decode cX1_bandFor 1 = .ok (.istore_n 3, 1) := by decide +kernel
theorem dX1_bandFor_2 : decode cX1_bandFor 2 = .ok (.iload_n 3, 1) := by decide +kernel
theorem dX1_bandFor_3 : decode cX1_bandFor 3 = .ok (.ifCond .lt 20, 3) := by decide +kernel
theorem dX1_bandFor_6 : decode cX1_bandFor 6 = .ok (.aload_n 0, 1) := by decide +kernel
theorem dX1_bandFor_7 : decode cX1_bandFor 7 = .ok (.iload_n 3, 1) := by decide +kernel
theorem dX1_bandFor_8 : decode cX1_bandFor 8 = .ok (.iload_n 2, 1) := by decide +kernel
theorem dX1_bandFor_9 : decode cX1_bandFor 9 = .ok (.invokevirtual 18, 3) := by decide +kernel
theorem dX1_bandFor_12 : decode cX1_bandFor 12 = .ok (.ifCond .le 5, 3) := by decide +kernel
theorem dX1_bandFor_15 : decode cX1_bandFor 15 = .ok (.iload_n 3, 1) := by decide +kernel
theorem dX1_bandFor_16 : decode cX1_bandFor 16 = .ok (.ireturn, 1) := by decide +kernel
theorem dX1_bandFor_17 : decode cX1_bandFor 17 = .ok (.iinc 3 (-1), 3) := by decide +kernel
theorem dX1_bandFor_20 : decode cX1_bandFor 20 = .ok (.goto (-18), 3) := by decide +kernel
theorem dX1_bandFor_23 : decode cX1_bandFor 23 = .ok (.iconst (-1), 1) := by decide +kernel
theorem dX1_bandFor_24 : decode cX1_bandFor 24 = .ok (.ireturn, 1) := by decide +kernel
theorem dX2_init_0 : decode cX2_init 0 = .ok (.aload_n 0, 1) := by decide +kernel
theorem dX2_init_1 : decode cX2_init 1 = .ok (.invokespecial 1, 3) := by decide +kernel
theorem dX2_init_4 : decode cX2_init 4 = .ok (.aload_n 0, 1) := by decide +kernel
theorem dX2_init_5 : decode cX2_init 5 = .ok (.iload_n 1, 1) := by decide +kernel
theorem dX2_init_6 : decode cX2_init 6 = .ok (.putfield 7, 3) := by decide +kernel
theorem dX2_init_9 : decode cX2_init 9 = .ok (.aload_n 0, 1) := by decide +kernel
theorem dX2_init_10 : decode cX2_init 10 = .ok (.iload_n 2, 1) := by decide +kernel
theorem dX2_init_11 : decode cX2_init 11 = .ok (.putfield 13, 3) := by decide +kernel
theorem dX2_init_14 : decode cX2_init 14 = .ok (.aload_n 0, 1) := by decide +kernel
theorem dX2_init_15 : decode cX2_init 15 = .ok (.iload_n 3, 1) := by decide +kernel
theorem dX2_init_16 : decode cX2_init 16 = .ok (.putfield 16, 3) := by decide +kernel
theorem dX2_init_19 : decode cX2_init 19 = .ok (.return_, 1) := by decide +kernel
set_option maxRecDepth 20000 in
theorem ggX3_init_X0_init : GoodIn wsX3_init wsX0_init := goodIn_r _ [17, 18, 2, 3, 10, 19, 20, 21, 29, 30, 31] (by decide +kernel) (by decide +kernel)
set_option maxRecDepth 20000 in
theorem gX3_init_X0_init : GoodIn wsX3_init (wsX0_init) := ggX3_init_X0_init
theorem dX3_init_0 : decode cX3_init 0 = .ok (.aload_n 0, 1) := by decide +kernel
theorem dX3_init_1 : decode cX3_init 1 = .ok (.invokespecial 3, 3) := by decide +kernel
theorem dX3_init_4 : decode cX3_init 4 = .ok (.aload_n 0, 1) := by decide +kernel
theorem dX3_init_5 : decode cX3_init 5 = .ok (.iload_n 1, 1) := by decide +kernel
theorem dX3_init_6 : decode cX3_init 6 = .ok (.putfield 9, 3) := by decide +kernel
theorem dX3_init_9 : decode cX3_init 9 = .ok (.aload_n 0, 1) := by decide +kernel
theorem dX3_init_10 : decode cX3_init 10 = .ok (.new 15, 3) := by decide +kernel
theorem dX3_init_13 : decode cX3_init 13 = .ok (.dup, 1) := by decide +kernel
theorem dX3_init_14 : decode cX3_init 14 = .ok (.invokespecial 17, 3) := by decide +kernel
theorem dX3_init_17 : decode cX3_init 17 = .ok (.putfield 18, 3) := by decide +kernel
theorem dX3_init_20 : decode cX3_init 20 = .ok (.aload_n 0, 1) := by decide +kernel
theorem dX3_init_21 : decode cX3_init 21 = .ok (.iconst 0, 1) := by decide +kernel
theorem dX3_init_22 : decode cX3_init 22 = .ok (.putfield 22, 3) := by decide +kernel
theorem dX3_init_25 : decode cX3_init 25 = .ok (.aload_n 0, 1) := by decide +kernel
theorem dX3_init_26 : decode cX3_init 26 = .ok (.iconst 5, 1) := by decide +kernel
theorem dX3_init_27 : decode cX3_init 27 = .ok (.newarray .int, 2) := by decide +kernel
theorem dX3_init_29 : decode cX3_init 29 = .ok (.putfield 26, 3) := by decide +kernel
theorem dX3_init_32 : decode cX3_init 32 = .ok (.aload_n 0, 1) := by decide +kernel
theorem dX3_init_33 : decode cX3_init 33 = .ok (.iconst 4, 1) := by decide +kernel
theorem dX3_init_34 : decode cX3_init 34 = .ok (.newarray .int, 2) := by decide +kernel
theorem dX3_init_36 : decode cX3_init 36 = .ok (.putfield 30, 3) := by decide +kernel
theorem dX3_init_39 : decode cX3_init 39 = .ok (.aload_n 0, 1) := by decide +kernel
theorem dX3_init_40 : decode cX3_init 40 = .ok (.bipush 6, 2) := by decide +kernel
theorem dX3_init_42 : decode cX3_init 42 = .ok (.newarray .int, 2) := by decide +kernel
theorem dX3_init_44 : decode cX3_init 44 = .ok (.putfield 33, 3) := by decide +kernel
theorem dX3_init_47 : decode cX3_init 47 = .ok (.aload_n 0, 1) := by decide +kernel
theorem dX3_init_48 : decode cX3_init 48 = .ok (.iconst 0, 1) := by decide +kernel
theorem dX3_init_49 : decode cX3_init 49 = .ok (.putfield 36, 3) := by decide +kernel
theorem dX3_init_52 : decode cX3_init 52 = .ok (.return_, 1) := by decide +kernel
set_option maxRecDepth 20000 in
theorem ggX3_compare_X4_size : GoodIn wsX3_compare wsX4_size := goodIn_r _ [7, 8, 46, 47] (by decide +kernel) (by decide +kernel)
set_option maxRecDepth 20000 in
theorem gX3_compare_X4_size : GoodIn wsX3_compare (wsV RX3 39 RX4 yX4_size wsX4_size) := goodIn_app (goodIn_of _ (by decide +kernel)) ggX3_compare_X4_size
set_option maxRecDepth 20000 in
theorem ggX3_compare_X4_codeAt : GoodIn wsX3_compare wsX4_codeAt := goodIn_r _ [12, 8, 13, 46, 47] (by decide +kernel) (by decide +kernel)
set_option maxRecDepth 20000 in
theorem gX3_compare_X4_codeAt : GoodIn wsX3_compare (wsV RX3 45 RX4 yX4_codeAt wsX4_codeAt) := goodIn_app (goodIn_of _ (by decide +kernel)) ggX3_compare_X4_codeAt
set_option maxRecDepth 20000 in
theorem ggX3_compare_X4_firstOnLineOf : GoodIn wsX3_compare wsX4_firstOnLineOf := goodIn_r _ [17, 8, 13, 18, 19, 6, 20, 21, 22, 23, 46, 47] (by decide +kernel) (by decide +kernel)
set_option maxRecDepth 20000 in
theorem gX3_compare_X4_firstOnLineOf : GoodIn wsX3_compare (wsV RX3 49 RX4 yX4_firstOnLineOf wsX4_firstOnLineOf) := goodIn_app (goodIn_of _ (by decide +kernel)) ggX3_compare_X4_firstOnLineOf
set_option maxRecDepth 20000 in
theorem ggX3_compare_X3_addRank : GoodIn wsX3_compare wsX3_addRank := goodIn_r _ [28, 2, 29, 39, 40, 41, 42, 43, 44, 45] (by decide +kernel) (by decide +kernel)
set_option maxRecDepth 20000 in
theorem gX3_compare_X3_addRank : GoodIn wsX3_compare (wsV RX3 52 RX3 yX3_addRank wsX3_addRank) := goodIn_app (goodIn_of _ (by decide +kernel)) ggX3_compare_X3_addRank
set_option maxRecDepth 20000 in
theorem ggX3_compare_X3_longestRise : GoodIn wsX3_compare wsX3_longestRise := goodIn_r _ [33, 34, 2, 29, 35, 36, 37, 38, 39, 40, 41, 42, 43, 44, 45] (by decide +kernel) (by decide +kernel)
set_option maxRecDepth 20000 in
theorem gX3_compare_X3_longestRise : GoodIn wsX3_compare (wsV RX3 56 RX3 yX3_longestRise wsX3_longestRise) := goodIn_app (goodIn_of _ (by decide +kernel)) ggX3_compare_X3_longestRise
theorem dX3_compare_0 : decode cX3_compare 0 = .ok (.iconst 0, 1) := by decide +kernel
theorem dX3_compare_1 : decode cX3_compare 1 = .ok (.istore_n 3, 1) := by decide +kernel
theorem dX3_compare_2 : decode cX3_compare 2 = .ok (.iload_n 3, 1) := by decide +kernel
theorem dX3_compare_3 : decode cX3_compare 3 = .ok (.aload_n 2, 1) := by decide +kernel
theorem dX3_compare_4 : decode cX3_compare 4 = .ok (.invokevirtual 39, 3) := by decide +kernel
theorem dX3_compare_7 : decode cX3_compare 7 = .ok (.if_icmp .ge 80, 3) := by decide +kernel
theorem dX3_compare_10 : decode cX3_compare 10 = .ok (.aload_n 2, 1) := by decide +kernel
theorem dX3_compare_11 : decode cX3_compare 11 = .ok (.iload_n 3, 1) := by decide +kernel
theorem dX3_compare_12 : decode cX3_compare 12 = .ok (.invokevirtual 45, 3) := by decide +kernel
theorem dX3_compare_15 : decode cX3_compare 15 = .ok (.istore 4, 2) := by decide +kernel
theorem dX3_compare_17 : decode cX3_compare 17 = .ok (.aload_n 1, 1) := by decide +kernel
theorem dX3_compare_18 : decode cX3_compare 18 = .ok (.iload 4, 2) := by decide +kernel
theorem dX3_compare_20 : decode cX3_compare 20 = .ok (.invokevirtual 49, 3) := by decide +kernel
theorem dX3_compare_23 : decode cX3_compare 23 = .ok (.istore 5, 2) := by decide +kernel
theorem dX3_compare_25 : decode cX3_compare 25 = .ok (.iload 5, 2) := by decide +kernel
theorem dX3_compare_27 : decode cX3_compare 27 = .ok (.iconst (-1), 1) := by decide +kernel
theorem dX3_compare_28 : decode cX3_compare 28 = .ok (.if_icmp .eq 13, 3) := by decide +kernel
theorem dX3_compare_31 : decode cX3_compare 31 = .ok (.aload_n 2, 1) := by decide +kernel
theorem dX3_compare_32 : decode cX3_compare 32 = .ok (.iload 4, 2) := by decide +kernel
theorem dX3_compare_34 : decode cX3_compare 34 = .ok (.invokevirtual 49, 3) := by decide +kernel
theorem dX3_compare_37 : decode cX3_compare 37 = .ok (.iload_n 3, 1) := by decide +kernel
theorem dX3_compare_38 : decode cX3_compare 38 = .ok (.if_icmp .ge 16, 3) := by decide +kernel
theorem dX3_compare_41 : decode cX3_compare 41 = .ok (.aload_n 0, 1) := by decide +kernel
theorem dX3_compare_42 : decode cX3_compare 42 = .ok (.getfield 26, 3) := by decide +kernel
theorem dX3_compare_45 : decode cX3_compare 45 = .ok (.iconst 1, 1) := by decide +kernel
theorem dX3_compare_46 : decode cX3_compare 46 = .ok (.dup2, 1) := by decide +kernel
theorem dX3_compare_47 : decode cX3_compare 47 = .ok (.iaload, 1) := by decide +kernel
theorem dX3_compare_48 : decode cX3_compare 48 = .ok (.iconst 1, 1) := by decide +kernel
theorem dX3_compare_49 : decode cX3_compare 49 = .ok (.iadd, 1) := by decide +kernel
theorem dX3_compare_50 : decode cX3_compare 50 = .ok (.iastore, 1) := by decide +kernel
theorem dX3_compare_51 : decode cX3_compare 51 = .ok (.goto 30, 3) := by decide +kernel
theorem dX3_compare_54 : decode cX3_compare 54 = .ok (.aload_n 0, 1) := by decide +kernel
theorem dX3_compare_55 : decode cX3_compare 55 = .ok (.iload 5, 2) := by decide +kernel
theorem dX3_compare_57 : decode cX3_compare 57 = .ok (.invokevirtual 52, 3) := by decide +kernel
theorem dX3_compare_60 : decode cX3_compare 60 = .ok (.aload_n 1, 1) := by decide +kernel
theorem dX3_compare_61 : decode cX3_compare 61 = .ok (.iload 5, 2) := by decide +kernel
theorem dX3_compare_63 : decode cX3_compare 63 = .ok (.invokevirtual 45, 3) := by decide +kernel
theorem dX3_compare_66 : decode cX3_compare 66 = .ok (.iload 4, 2) := by decide +kernel
theorem dX3_compare_68 : decode cX3_compare 68 = .ok (.if_icmp .eq 13, 3) := by decide +kernel
theorem dX3_compare_71 : decode cX3_compare 71 = .ok (.aload_n 0, 1) := by decide +kernel
theorem dX3_compare_72 : decode cX3_compare 72 = .ok (.getfield 26, 3) := by decide +kernel
theorem dX3_compare_75 : decode cX3_compare 75 = .ok (.iconst 2, 1) := by decide +kernel
theorem dX3_compare_76 : decode cX3_compare 76 = .ok (.dup2, 1) := by decide +kernel
theorem dX3_compare_77 : decode cX3_compare 77 = .ok (.iaload, 1) := by decide +kernel
theorem dX3_compare_78 : decode cX3_compare 78 = .ok (.iconst 1, 1) := by decide +kernel
theorem dX3_compare_79 : decode cX3_compare 79 = .ok (.iadd, 1) := by decide +kernel
theorem dX3_compare_80 : decode cX3_compare 80 = .ok (.iastore, 1) := by decide +kernel
theorem dX3_compare_81 : decode cX3_compare 81 = .ok (.iinc 3 1, 3) := by decide +kernel
theorem dX3_compare_84 : decode cX3_compare 84 = .ok (.goto (-82), 3) := by decide +kernel
theorem dX3_compare_87 : decode cX3_compare 87 = .ok (.aload_n 0, 1) := by decide +kernel
theorem dX3_compare_88 : decode cX3_compare 88 = .ok (.getfield 26, 3) := by decide +kernel
theorem dX3_compare_91 : decode cX3_compare 91 = .ok (.iconst 0, 1) := by decide +kernel
theorem dX3_compare_92 : decode cX3_compare 92 = .ok (.aload_n 1, 1) := by decide +kernel
theorem dX3_compare_93 : decode cX3_compare 93 = .ok (.invokevirtual 39, 3) := by decide +kernel
theorem dX3_compare_96 : decode cX3_compare 96 = .ok (.aload_n 0, 1) := by decide +kernel
theorem dX3_compare_97 : decode cX3_compare 97 = .ok (.getfield 36, 3) := by decide +kernel
theorem dX3_compare_100 : decode cX3_compare 100 = .ok (.isub, 1) := by decide +kernel
theorem dX3_compare_101 : decode cX3_compare 101 = .ok (.iastore, 1) := by decide +kernel
theorem dX3_compare_102 : decode cX3_compare 102 = .ok (.aload_n 0, 1) := by decide +kernel
theorem dX3_compare_103 : decode cX3_compare 103 = .ok (.getfield 26, 3) := by decide +kernel
theorem dX3_compare_106 : decode cX3_compare 106 = .ok (.iconst 3, 1) := by decide +kernel
theorem dX3_compare_107 : decode cX3_compare 107 = .ok (.aload_n 0, 1) := by decide +kernel
theorem dX3_compare_108 : decode cX3_compare 108 = .ok (.getfield 36, 3) := by decide +kernel
theorem dX3_compare_111 : decode cX3_compare 111 = .ok (.aload_n 0, 1) := by decide +kernel
theorem dX3_compare_112 : decode cX3_compare 112 = .ok (.invokevirtual 56, 3) := by decide +kernel
theorem dX3_compare_115 : decode cX3_compare 115 = .ok (.isub, 1) := by decide +kernel
theorem dX3_compare_116 : decode cX3_compare 116 = .ok (.iastore, 1) := by decide +kernel
theorem dX3_compare_117 : decode cX3_compare 117 = .ok (.return_, 1) := by decide +kernel
theorem dX3_addRank_0 : decode cX3_addRank 0 = .ok (.aload_n 0, 1) := by decide +kernel
theorem dX3_addRank_1 : decode cX3_addRank 1 = .ok (.getfield 36, 3) := by decide +kernel
theorem dX3_addRank_4 : decode cX3_addRank 4 = .ok (.bipush 6, 2) := by decide +kernel
theorem dX3_addRank_6 : decode cX3_addRank 6 = .ok (.if_icmp .ge 23, 3) := by decide +kernel
theorem dX3_addRank_9 : decode cX3_addRank 9 = .ok (.aload_n 0, 1) := by decide +kernel
theorem dX3_addRank_10 : decode cX3_addRank 10 = .ok (.getfield 33, 3) := by decide +kernel
theorem dX3_addRank_13 : decode cX3_addRank 13 = .ok (.aload_n 0, 1) := by decide +kernel
theorem dX3_addRank_14 : decode cX3_addRank 14 = .ok (.getfield 36, 3) := by decide +kernel
theorem dX3_addRank_17 : decode cX3_addRank 17 = .ok (.iload_n 1, 1) := by decide +kernel
theorem dX3_addRank_18 : decode cX3_addRank 18 = .ok (.iastore, 1) := by decide +kernel
theorem dX3_addRank_19 : decode cX3_addRank 19 = .ok (.aload_n 0, 1) := by decide +kernel
theorem dX3_addRank_20 : decode cX3_addRank 20 = .ok (.dup, 1) := by decide +kernel
theorem dX3_addRank_21 : decode cX3_addRank 21 = .ok (.getfield 36, 3) := by decide +kernel
theorem dX3_addRank_24 : decode cX3_addRank 24 = .ok (.iconst 1, 1) := by decide +kernel
theorem dX3_addRank_25 : decode cX3_addRank 25 = .ok (.iadd, 1) := by decide +kernel
theorem dX3_addRank_26 : decode cX3_addRank 26 = .ok (.putfield 36, 3) := by decide +kernel
theorem dX3_addRank_29 : decode cX3_addRank 29 = .ok (.return_, 1) := by decide +kernel
theorem dX3_addWrongRuling_0 : decode cX3_addWrongRuling 0 = .ok (.aload_n 0, 1) := by decide +kernel
theorem dX3_addWrongRuling_1 : decode cX3_addWrongRuling 1 = .ok (.getfield 26, 3) := by decide +kernel
theorem dX3_addWrongRuling_4 : decode cX3_addWrongRuling 4 = .ok (.iconst 4, 1) := by decide +kernel
theorem dX3_addWrongRuling_5 : decode cX3_addWrongRuling 5 = .ok (.iconst 1, 1) := by decide +kernel
theorem dX3_addWrongRuling_6 : decode cX3_addWrongRuling 6 = .ok (.iastore, 1) := by decide +kernel
theorem dX3_addWrongRuling_7 : decode cX3_addWrongRuling 7 = .ok (.return_, 1) := by decide +kernel
theorem dX3_longestRise_0 : decode cX3_longestRise 0 = .ok (.bipush 6, 2) := by decide +kernel
theorem dX3_longestRise_2 : decode cX3_longestRise 2 = .ok (.newarray .int, 2) := by decide +kernel
theorem dX3_longestRise_4 : decode cX3_longestRise 4 = .ok (.astore_n 1, 1) := by decide +kernel
theorem dX3_longestRise_5 : decode cX3_longestRise 5 = .ok (.iconst 0, 1) := by decide +kernel
theorem dX3_longestRise_6 : decode cX3_longestRise 6 = .ok (.istore_n 2, 1) := by decide +kernel
theorem dX3_longestRise_7 : decode cX3_longestRise 7 = .ok (.iconst 0, 1) := by decide +kernel
theorem dX3_longestRise_8 : decode cX3_longestRise 8 = .ok (.istore_n 3, 1) := by decide +kernel
theorem dX3_longestRise_9 : decode cX3_longestRise 9 = .ok (.iload_n 3, 1) := by decide +kernel
theorem dX3_longestRise_10 : decode cX3_longestRise 10 = .ok (.aload_n 0, 1) := by decide +kernel
theorem dX3_longestRise_11 : decode cX3_longestRise 11 = .ok (.getfield 36, 3) := by decide +kernel
theorem dX3_longestRise_14 : decode cX3_longestRise 14 = .ok (.if_icmp .ge 67, 3) := by decide +kernel
theorem dX3_longestRise_17 : decode cX3_longestRise 17 = .ok (.aload_n 1, 1) := by decide +kernel
theorem dX3_longestRise_18 : decode cX3_longestRise 18 = .ok (.iload_n 3, 1) := by decide +kernel
theorem dX3_longestRise_19 : decode cX3_longestRise 19 = .ok (.iconst 1, 1) := by decide +kernel
theorem dX3_longestRise_20 : decode cX3_longestRise 20 = .ok (.iastore, 1) := by decide +kernel
theorem dX3_longestRise_21 : decode cX3_longestRise 21 = .ok (.iconst 0, 1) := by decide +kernel
theorem dX3_longestRise_22 : decode cX3_longestRise 22 = .ok (.istore 4, 2) := by decide +kernel
theorem dX3_longestRise_24 : decode cX3_longestRise 24 = .ok (.iload 4, 2) := by decide +kernel
theorem dX3_longestRise_26 : decode cX3_longestRise 26 = .ok (.iload_n 3, 1) := by decide +kernel
theorem dX3_longestRise_27 : decode cX3_longestRise 27 = .ok (.if_icmp .ge 40, 3) := by decide +kernel
theorem dX3_longestRise_30 : decode cX3_longestRise 30 = .ok (.aload_n 0, 1) := by decide +kernel
theorem dX3_longestRise_31 : decode cX3_longestRise 31 = .ok (.getfield 33, 3) := by decide +kernel
theorem dX3_longestRise_34 : decode cX3_longestRise 34 = .ok (.iload 4, 2) := by decide +kernel
theorem dX3_longestRise_36 : decode cX3_longestRise 36 = .ok (.iaload, 1) := by decide +kernel
theorem dX3_longestRise_37 : decode cX3_longestRise 37 = .ok (.aload_n 0, 1) := by decide +kernel
theorem dX3_longestRise_38 : decode cX3_longestRise 38 = .ok (.getfield 33, 3) := by decide +kernel
theorem dX3_longestRise_41 : decode cX3_longestRise 41 = .ok (.iload_n 3, 1) := by decide +kernel
theorem dX3_longestRise_42 : decode cX3_longestRise 42 = .ok (.iaload, 1) := by decide +kernel
theorem dX3_longestRise_43 : decode cX3_longestRise 43 = .ok (.if_icmp .ge 18, 3) := by decide +kernel
theorem dX3_longestRise_46 : decode cX3_longestRise 46 = .ok (.aload_n 1, 1) := by decide +kernel
theorem dX3_longestRise_47 : decode cX3_longestRise 47 = .ok (.iload_n 3, 1) := by decide +kernel
theorem dX3_longestRise_48 : decode cX3_longestRise 48 = .ok (.aload_n 1, 1) := by decide +kernel
theorem dX3_longestRise_49 : decode cX3_longestRise 49 = .ok (.iload_n 3, 1) := by decide +kernel
theorem dX3_longestRise_50 : decode cX3_longestRise 50 = .ok (.iaload, 1) := by decide +kernel
theorem dX3_longestRise_51 : decode cX3_longestRise 51 = .ok (.aload_n 1, 1) := by decide +kernel
theorem dX3_longestRise_52 : decode cX3_longestRise 52 = .ok (.iload 4, 2) := by decide +kernel
theorem dX3_longestRise_54 : decode cX3_longestRise 54 = .ok (.iaload, 1) := by decide +kernel
theorem dX3_longestRise_55 : decode cX3_longestRise 55 = .ok (.iconst 1, 1) := by decide +kernel
theorem dX3_longestRise_56 : decode cX3_longestRise 56 = .ok (.iadd, 1) := by decide +kernel
theorem dX3_longestRise_57 : decode cX3_longestRise 57 = .ok (.invokestatic 59, 3) := by decide +kernel
theorem dX3_longestRise_60 : decode cX3_longestRise 60 = .ok (.iastore, 1) := by decide +kernel
theorem dX3_longestRise_61 : decode cX3_longestRise 61 = .ok (.iinc 4 1, 3) := by decide +kernel
theorem dX3_longestRise_64 : decode cX3_longestRise 64 = .ok (.goto (-40), 3) := by decide +kernel
theorem dX3_longestRise_67 : decode cX3_longestRise 67 = .ok (.iload_n 2, 1) := by decide +kernel
theorem dX3_longestRise_68 : decode cX3_longestRise 68 = .ok (.aload_n 1, 1) := by decide +kernel
theorem dX3_longestRise_69 : decode cX3_longestRise 69 = .ok (.iload_n 3, 1) := by decide +kernel
theorem dX3_longestRise_70 : decode cX3_longestRise 70 = .ok (.iaload, 1) := by decide +kernel
theorem dX3_longestRise_71 : decode cX3_longestRise 71 = .ok (.invokestatic 59, 3) := by decide +kernel
theorem dX3_longestRise_74 : decode cX3_longestRise 74 = .ok (.istore_n 2, 1) := by decide +kernel
theorem dX3_longestRise_75 : decode cX3_longestRise 75 = .ok (.iinc 3 1, 3) := by decide +kernel
theorem dX3_longestRise_78 : decode cX3_longestRise 78 = .ok (.goto (-69), 3) := by decide +kernel
theorem dX3_longestRise_81 : decode cX3_longestRise 81 = .ok (.iload_n 2, 1) := by decide +kernel
theorem dX3_longestRise_82 : decode cX3_longestRise 82 = .ok (.ireturn, 1) := by decide +kernel
set_option maxRecDepth 20000 in
theorem ggX3_fewestLeftOut_X3_isInOrderWithout : GoodIn wsX3_fewestLeftOut wsX3_isInOrderWithout := goodIn_r _ [10, 1, 11, 19, 20, 21, 22, 23, 24, 25] (by decide +kernel) (by decide +kernel)
set_option maxRecDepth 20000 in
theorem gX3_fewestLeftOut_X3_isInOrderWithout : GoodIn wsX3_fewestLeftOut (wsV RX3 65 RX3 yX3_isInOrderWithout wsX3_isInOrderWithout) := goodIn_app (goodIn_of _ (by decide +kernel)) ggX3_fewestLeftOut_X3_isInOrderWithout
set_option maxRecDepth 20000 in
theorem ggX3_fewestLeftOut_J6_bitCount_0f7a4 : GoodIn wsX3_fewestLeftOut wsJ6_bitCount_0f7a4 := goodIn_r _ [15, 16, 17, 18] (by decide +kernel) (by decide +kernel)
set_option maxRecDepth 20000 in
theorem gX3_fewestLeftOut_J6_bitCount_0f7a4 : GoodIn wsX3_fewestLeftOut (va_wsS RX3 69 yJ6_bitCount_0f7a4 wsJ6_bitCount_0f7a4) := goodIn_app (goodIn_of _ (by decide +kernel)) ggX3_fewestLeftOut_J6_bitCount_0f7a4
theorem dX3_fewestLeftOut_0 : decode cX3_fewestLeftOut 0 = .ok (.iconst 1, 1) := by decide +kernel
theorem dX3_fewestLeftOut_1 : decode cX3_fewestLeftOut 1 = .ok (.aload_n 0, 1) := by decide +kernel
theorem dX3_fewestLeftOut_2 : decode cX3_fewestLeftOut 2 = .ok (.getfield 36, 3) := by decide +kernel
theorem dX3_fewestLeftOut_5 : decode cX3_fewestLeftOut 5 = .ok (.ishl, 1) := by decide +kernel
theorem dX3_fewestLeftOut_6 : decode cX3_fewestLeftOut 6 = .ok (.istore_n 1, 1) := by decide +kernel
theorem dX3_fewestLeftOut_7 : decode cX3_fewestLeftOut 7 = .ok (.aload_n 0, 1) := by decide +kernel
theorem dX3_fewestLeftOut_8 : decode cX3_fewestLeftOut 8 = .ok (.getfield 36, 3) := by decide +kernel
theorem dX3_fewestLeftOut_11 : decode cX3_fewestLeftOut 11 = .ok (.istore_n 2, 1) := by decide +kernel
theorem dX3_fewestLeftOut_12 : decode cX3_fewestLeftOut 12 = .ok (.iconst 0, 1) := by decide +kernel
theorem dX3_fewestLeftOut_13 : decode cX3_fewestLeftOut 13 = .ok (.istore_n 3, 1) := by decide +kernel
theorem dX3_fewestLeftOut_14 : decode cX3_fewestLeftOut 14 = .ok (.iload_n 3, 1) := by decide +kernel
theorem dX3_fewestLeftOut_15 : decode cX3_fewestLeftOut 15 = .ok (.iload_n 1, 1) := by decide +kernel
theorem dX3_fewestLeftOut_16 : decode cX3_fewestLeftOut 16 = .ok (.if_icmp .ge 26, 3) := by decide +kernel
theorem dX3_fewestLeftOut_19 : decode cX3_fewestLeftOut 19 = .ok (.aload_n 0, 1) := by decide +kernel
theorem dX3_fewestLeftOut_20 : decode cX3_fewestLeftOut 20 = .ok (.iload_n 3, 1) := by decide +kernel
theorem dX3_fewestLeftOut_21 : decode cX3_fewestLeftOut 21 = .ok (.invokevirtual 65, 3) := by decide +kernel
theorem dX3_fewestLeftOut_24 : decode cX3_fewestLeftOut 24 = .ok (.ifCond .eq 12, 3) := by decide +kernel
theorem dX3_fewestLeftOut_27 : decode cX3_fewestLeftOut 27 = .ok (.iload_n 2, 1) := by decide +kernel
theorem dX3_fewestLeftOut_28 : decode cX3_fewestLeftOut 28 = .ok (.iload_n 3, 1) := by decide +kernel
theorem dX3_fewestLeftOut_29 : decode cX3_fewestLeftOut 29 = .ok (.invokestatic 69, 3) := by decide +kernel
theorem dX3_fewestLeftOut_32 : decode cX3_fewestLeftOut 32 = .ok (.invokestatic 74, 3) := by decide +kernel
theorem dX3_fewestLeftOut_35 : decode cX3_fewestLeftOut 35 = .ok (.istore_n 2, 1) := by decide +kernel
theorem dX3_fewestLeftOut_36 : decode cX3_fewestLeftOut 36 = .ok (.iinc 3 1, 3) := by decide +kernel
theorem dX3_fewestLeftOut_39 : decode cX3_fewestLeftOut 39 = .ok (.goto (-25), 3) := by decide +kernel
theorem dX3_fewestLeftOut_42 : decode cX3_fewestLeftOut 42 = .ok (.iload_n 2, 1) := by decide +kernel
theorem dX3_fewestLeftOut_43 : decode cX3_fewestLeftOut 43 = .ok (.ireturn, 1) := by decide +kernel
theorem dX3_isInOrderWithout_0 : decode cX3_isInOrderWithout 0 = .ok (.iconst (-1), 1) := by decide +kernel
theorem dX3_isInOrderWithout_1 : decode cX3_isInOrderWithout 1 = .ok (.istore_n 2, 1) := by decide +kernel
theorem dX3_isInOrderWithout_2 : decode cX3_isInOrderWithout 2 = .ok (.iconst 0, 1) := by decide +kernel
theorem dX3_isInOrderWithout_3 : decode cX3_isInOrderWithout 3 = .ok (.istore_n 3, 1) := by decide +kernel
theorem dX3_isInOrderWithout_4 : decode cX3_isInOrderWithout 4 = .ok (.iload_n 3, 1) := by decide +kernel
theorem dX3_isInOrderWithout_5 : decode cX3_isInOrderWithout 5 = .ok (.aload_n 0, 1) := by decide +kernel
theorem dX3_isInOrderWithout_6 : decode cX3_isInOrderWithout 6 = .ok (.getfield 36, 3) := by decide +kernel
theorem dX3_isInOrderWithout_9 : decode cX3_isInOrderWithout 9 = .ok (.if_icmp .ge 53, 3) := by decide +kernel
theorem dX3_isInOrderWithout_12 : decode cX3_isInOrderWithout 12 = .ok (.iload_n 1, 1) := by decide +kernel
theorem dX3_isInOrderWithout_13 : decode cX3_isInOrderWithout 13 = .ok (.iload_n 3, 1) := by decide +kernel
theorem dX3_isInOrderWithout_14 : decode cX3_isInOrderWithout 14 = .ok (.ishr, 1) := by decide +kernel
theorem dX3_isInOrderWithout_15 : decode cX3_isInOrderWithout 15 = .ok (.iconst 1, 1) := by decide +kernel
theorem dX3_isInOrderWithout_16 : decode cX3_isInOrderWithout 16 = .ok (.iand, 1) := by decide +kernel
theorem dX3_isInOrderWithout_17 : decode cX3_isInOrderWithout 17 = .ok (.ifCond .ne 7, 3) := by decide +kernel
theorem dX3_isInOrderWithout_20 : decode cX3_isInOrderWithout 20 = .ok (.iconst 1, 1) := by decide +kernel
theorem dX3_isInOrderWithout_21 : decode cX3_isInOrderWithout 21 = .ok (.goto 4, 3) := by decide +kernel
theorem dX3_isInOrderWithout_24 : decode cX3_isInOrderWithout 24 = .ok (.iconst 0, 1) := by decide +kernel
theorem dX3_isInOrderWithout_25 : decode cX3_isInOrderWithout 25 = .ok (.istore 4, 2) := by decide +kernel
theorem dX3_isInOrderWithout_27 : decode cX3_isInOrderWithout 27 = .ok (.iload 4, 2) := by decide +kernel
theorem dX3_isInOrderWithout_29 : decode cX3_isInOrderWithout 29 = .ok (.ifCond .eq 15, 3) := by decide +kernel
theorem dX3_isInOrderWithout_32 : decode cX3_isInOrderWithout 32 = .ok (.aload_n 0, 1) := by decide +kernel
theorem dX3_isInOrderWithout_33 : decode cX3_isInOrderWithout 33 = .ok (.getfield 33, 3) := by decide +kernel
theorem dX3_isInOrderWithout_36 : decode cX3_isInOrderWithout 36 = .ok (.iload_n 3, 1) := by decide +kernel
theorem dX3_isInOrderWithout_37 : decode cX3_isInOrderWithout 37 = .ok (.iaload, 1) := by decide +kernel
theorem dX3_isInOrderWithout_38 : decode cX3_isInOrderWithout 38 = .ok (.iload_n 2, 1) := by decide +kernel
theorem dX3_isInOrderWithout_39 : decode cX3_isInOrderWithout 39 = .ok (.if_icmp .ge 5, 3) := by decide +kernel
theorem dX3_isInOrderWithout_42 : decode cX3_isInOrderWithout 42 = .ok (.iconst 0, 1) := by decide +kernel
theorem dX3_isInOrderWithout_43 : decode cX3_isInOrderWithout 43 = .ok (.ireturn, 1) := by decide +kernel
theorem dX3_isInOrderWithout_44 : decode cX3_isInOrderWithout 44 = .ok (.iload 4, 2) := by decide +kernel
theorem dX3_isInOrderWithout_46 : decode cX3_isInOrderWithout 46 = .ok (.ifCond .eq 10, 3) := by decide +kernel
theorem dX3_isInOrderWithout_49 : decode cX3_isInOrderWithout 49 = .ok (.aload_n 0, 1) := by decide +kernel
theorem dX3_isInOrderWithout_50 : decode cX3_isInOrderWithout 50 = .ok (.getfield 33, 3) := by decide +kernel
theorem dX3_isInOrderWithout_53 : decode cX3_isInOrderWithout 53 = .ok (.iload_n 3, 1) := by decide +kernel
theorem dX3_isInOrderWithout_54 : decode cX3_isInOrderWithout 54 = .ok (.iaload, 1) := by decide +kernel
theorem dX3_isInOrderWithout_55 : decode cX3_isInOrderWithout 55 = .ok (.istore_n 2, 1) := by decide +kernel
theorem dX3_isInOrderWithout_56 : decode cX3_isInOrderWithout 56 = .ok (.iinc 3 1, 3) := by decide +kernel
theorem dX3_isInOrderWithout_59 : decode cX3_isInOrderWithout 59 = .ok (.goto (-55), 3) := by decide +kernel
theorem dX3_isInOrderWithout_62 : decode cX3_isInOrderWithout 62 = .ok (.iconst 1, 1) := by decide +kernel
theorem dX3_isInOrderWithout_63 : decode cX3_isInOrderWithout 63 = .ok (.ireturn, 1) := by decide +kernel
theorem dX3_slipsOf_0 : decode cX3_slipsOf 0 = .ok (.iload_n 1, 1) := by decide +kernel
theorem dX3_slipsOf_1 : decode cX3_slipsOf 1 = .ok (.ifCond .lt 17, 3) := by decide +kernel
theorem dX3_slipsOf_4 : decode cX3_slipsOf 4 = .ok (.iload_n 1, 1) := by decide +kernel
theorem dX3_slipsOf_5 : decode cX3_slipsOf 5 = .ok (.iconst 5, 1) := by decide +kernel
theorem dX3_slipsOf_6 : decode cX3_slipsOf 6 = .ok (.if_icmp .ge 12, 3) := by decide +kernel
theorem dX3_slipsOf_9 : decode cX3_slipsOf 9 = .ok (.aload_n 0, 1) := by decide +kernel
theorem dX3_slipsOf_10 : decode cX3_slipsOf 10 = .ok (.getfield 26, 3) := by decide +kernel
theorem dX3_slipsOf_13 : decode cX3_slipsOf 13 = .ok (.iload_n 1, 1) := by decide +kernel
theorem dX3_slipsOf_14 : decode cX3_slipsOf 14 = .ok (.iaload, 1) := by decide +kernel
theorem dX3_slipsOf_15 : decode cX3_slipsOf 15 = .ok (.goto 4, 3) := by decide +kernel
theorem dX3_slipsOf_18 : decode cX3_slipsOf 18 = .ok (.iconst 0, 1) := by decide +kernel
theorem dX3_slipsOf_19 : decode cX3_slipsOf 19 = .ok (.ireturn, 1) := by decide +kernel
theorem dX3_allSlips_0 : decode cX3_allSlips 0 = .ok (.iconst 0, 1) := by decide +kernel
theorem dX3_allSlips_1 : decode cX3_allSlips 1 = .ok (.istore_n 1, 1) := by decide +kernel
theorem dX3_allSlips_2 : decode cX3_allSlips 2 = .ok (.aload_n 0, 1) := by decide +kernel
theorem dX3_allSlips_3 : decode cX3_allSlips 3 = .ok (.getfield 26, 3) := by decide +kernel
theorem dX3_allSlips_6 : decode cX3_allSlips 6 = .ok (.astore_n 2, 1) := by decide +kernel
theorem dX3_allSlips_7 : decode cX3_allSlips 7 = .ok (.aload_n 2, 1) := by decide +kernel
theorem dX3_allSlips_8 : decode cX3_allSlips 8 = .ok (.arraylength, 1) := by decide +kernel
theorem dX3_allSlips_9 : decode cX3_allSlips 9 = .ok (.istore_n 3, 1) := by decide +kernel
theorem dX3_allSlips_10 : decode cX3_allSlips 10 = .ok (.iconst 0, 1) := by decide +kernel
theorem dX3_allSlips_11 : decode cX3_allSlips 11 = .ok (.istore 4, 2) := by decide +kernel
theorem dX3_allSlips_13 : decode cX3_allSlips 13 = .ok (.iload 4, 2) := by decide +kernel
theorem dX3_allSlips_15 : decode cX3_allSlips 15 = .ok (.iload_n 3, 1) := by decide +kernel
theorem dX3_allSlips_16 : decode cX3_allSlips 16 = .ok (.if_icmp .ge 20, 3) := by decide +kernel
theorem dX3_allSlips_19 : decode cX3_allSlips 19 = .ok (.aload_n 2, 1) := by decide +kernel
theorem dX3_allSlips_20 : decode cX3_allSlips 20 = .ok (.iload 4, 2) := by decide +kernel
theorem dX3_allSlips_22 : decode cX3_allSlips 22 = .ok (.iaload, 1) := by decide +kernel
theorem dX3_allSlips_23 : decode cX3_allSlips 23 = .ok (.istore 5, 2) := by decide +kernel
theorem dX3_allSlips_25 : decode cX3_allSlips 25 = .ok (.iload_n 1, 1) := by decide +kernel
theorem dX3_allSlips_26 : decode cX3_allSlips 26 = .ok (.iload 5, 2) := by decide +kernel
theorem dX3_allSlips_28 : decode cX3_allSlips 28 = .ok (.iadd, 1) := by decide +kernel
theorem dX3_allSlips_29 : decode cX3_allSlips 29 = .ok (.istore_n 1, 1) := by decide +kernel
theorem dX3_allSlips_30 : decode cX3_allSlips 30 = .ok (.iinc 4 1, 3) := by decide +kernel
theorem dX3_allSlips_33 : decode cX3_allSlips 33 = .ok (.goto (-20), 3) := by decide +kernel
theorem dX3_allSlips_36 : decode cX3_allSlips 36 = .ok (.iload_n 1, 1) := by decide +kernel
theorem dX3_allSlips_37 : decode cX3_allSlips 37 = .ok (.ireturn, 1) := by decide +kernel
theorem dX3_setPoints_0 : decode cX3_setPoints 0 = .ok (.iload_n 1, 1) := by decide +kernel
theorem dX3_setPoints_1 : decode cX3_setPoints 1 = .ok (.ifCond .lt 15, 3) := by decide +kernel
theorem dX3_setPoints_4 : decode cX3_setPoints 4 = .ok (.iload_n 1, 1) := by decide +kernel
theorem dX3_setPoints_5 : decode cX3_setPoints 5 = .ok (.iconst 4, 1) := by decide +kernel
theorem dX3_setPoints_6 : decode cX3_setPoints 6 = .ok (.if_icmp .ge 10, 3) := by decide +kernel
theorem dX3_setPoints_9 : decode cX3_setPoints 9 = .ok (.aload_n 0, 1) := by decide +kernel
theorem dX3_setPoints_10 : decode cX3_setPoints 10 = .ok (.getfield 30, 3) := by decide +kernel
theorem dX3_setPoints_13 : decode cX3_setPoints 13 = .ok (.iload_n 1, 1) := by decide +kernel
theorem dX3_setPoints_14 : decode cX3_setPoints 14 = .ok (.iload_n 2, 1) := by decide +kernel
theorem dX3_setPoints_15 : decode cX3_setPoints 15 = .ok (.iastore, 1) := by decide +kernel
theorem dX3_setPoints_16 : decode cX3_setPoints 16 = .ok (.return_, 1) := by decide +kernel
theorem dX3_allPoints_0 : decode cX3_allPoints 0 = .ok (.iconst 0, 1) := by decide +kernel
theorem dX3_allPoints_1 : decode cX3_allPoints 1 = .ok (.istore_n 1, 1) := by decide +kernel
theorem dX3_allPoints_2 : decode cX3_allPoints 2 = .ok (.aload_n 0, 1) := by decide +kernel
theorem dX3_allPoints_3 : decode cX3_allPoints 3 = .ok (.getfield 30, 3) := by decide +kernel
theorem dX3_allPoints_6 : decode cX3_allPoints 6 = .ok (.astore_n 2, 1) := by decide +kernel
theorem dX3_allPoints_7 : decode cX3_allPoints 7 = .ok (.aload_n 2, 1) := by decide +kernel
theorem dX3_allPoints_8 : decode cX3_allPoints 8 = .ok (.arraylength, 1) := by decide +kernel
theorem dX3_allPoints_9 : decode cX3_allPoints 9 = .ok (.istore_n 3, 1) := by decide +kernel
theorem dX3_allPoints_10 : decode cX3_allPoints 10 = .ok (.iconst 0, 1) := by decide +kernel
theorem dX3_allPoints_11 : decode cX3_allPoints 11 = .ok (.istore 4, 2) := by decide +kernel
theorem dX3_allPoints_13 : decode cX3_allPoints 13 = .ok (.iload 4, 2) := by decide +kernel
theorem dX3_allPoints_15 : decode cX3_allPoints 15 = .ok (.iload_n 3, 1) := by decide +kernel
theorem dX3_allPoints_16 : decode cX3_allPoints 16 = .ok (.if_icmp .ge 20, 3) := by decide +kernel
theorem dX3_allPoints_19 : decode cX3_allPoints 19 = .ok (.aload_n 2, 1) := by decide +kernel
theorem dX3_allPoints_20 : decode cX3_allPoints 20 = .ok (.iload 4, 2) := by decide +kernel
theorem dX3_allPoints_22 : decode cX3_allPoints 22 = .ok (.iaload, 1) := by decide +kernel
theorem dX3_allPoints_23 : decode cX3_allPoints 23 = .ok (.istore 5, 2) := by decide +kernel
theorem dX3_allPoints_25 : decode cX3_allPoints 25 = .ok (.iload_n 1, 1) := by decide +kernel
theorem dX3_allPoints_26 : decode cX3_allPoints 26 = .ok (.iload 5, 2) := by decide +kernel
theorem dX3_allPoints_28 : decode cX3_allPoints 28 = .ok (.iadd, 1) := by decide +kernel
theorem dX3_allPoints_29 : decode cX3_allPoints 29 = .ok (.istore_n 1, 1) := by decide +kernel
theorem dX3_allPoints_30 : decode cX3_allPoints 30 = .ok (.iinc 4 1, 3) := by decide +kernel
theorem dX3_allPoints_33 : decode cX3_allPoints 33 = .ok (.goto (-20), 3) := by decide +kernel
theorem dX3_allPoints_36 : decode cX3_allPoints 36 = .ok (.iload_n 1, 1) := by decide +kernel
theorem dX3_allPoints_37 : decode cX3_allPoints 37 = .ok (.ireturn, 1) := by decide +kernel
set_option maxRecDepth 20000 in
theorem ggX3_worthNow_X0_result : GoodIn wsX3_worthNow wsX0_result := goodIn_r _ [7, 8, 9, 10, 11, 12, 13, 14, 15, 16, 17, 18, 19, 6, 20, 21, 22, 23, 42, 43, 44] (by decide +kernel) (by decide +kernel)
set_option maxRecDepth 20000 in
theorem gX3_worthNow_X0_result : GoodIn wsX3_worthNow (wsV RX3 77 RX0 yX0_result wsX0_result) := goodIn_app (goodIn_of _ (by decide +kernel)) ggX3_worthNow_X0_result
set_option maxRecDepth 20000 in
theorem ggX3_worthNow_X3_allPoints : GoodIn wsX3_worthNow wsX3_allPoints := goodIn_r _ [28, 29, 35, 36, 37, 38, 39, 40, 41] (by decide +kernel) (by decide +kernel)
set_option maxRecDepth 20000 in
theorem gX3_worthNow_X3_allPoints : GoodIn wsX3_worthNow (wsV RX3 80 RX3 yX3_allPoints wsX3_allPoints) := goodIn_app (goodIn_of _ (by decide +kernel)) ggX3_worthNow_X3_allPoints
set_option maxRecDepth 20000 in
theorem ggX3_worthNow_X3_allSlips : GoodIn wsX3_worthNow wsX3_allSlips := goodIn_r _ [33, 34, 35, 36, 37, 38, 39, 40, 41] (by decide +kernel) (by decide +kernel)
set_option maxRecDepth 20000 in
theorem gX3_worthNow_X3_allSlips : GoodIn wsX3_worthNow (wsV RX3 83 RX3 yX3_allSlips wsX3_allSlips) := goodIn_app (goodIn_of _ (by decide +kernel)) ggX3_worthNow_X3_allSlips
theorem dX3_worthNow_0 : decode cX3_worthNow 0 = .ok (.aload_n 0, 1) := by decide +kernel
theorem dX3_worthNow_1 : decode cX3_worthNow 1 = .ok (.getfield 18, 3) := by decide +kernel
theorem dX3_worthNow_4 : decode cX3_worthNow 4 = .ok (.invokevirtual 77, 3) := by decide +kernel
theorem dX3_worthNow_7 : decode cX3_worthNow 7 = .ok (.istore_n 1, 1) := by decide +kernel
theorem dX3_worthNow_8 : decode cX3_worthNow 8 = .ok (.aload_n 0, 1) := by decide +kernel
theorem dX3_worthNow_9 : decode cX3_worthNow 9 = .ok (.getfield 22, 3) := by decide +kernel
theorem dX3_worthNow_12 : decode cX3_worthNow 12 = .ok (.ifCond .eq 8, 3) := by decide +kernel
theorem dX3_worthNow_15 : decode cX3_worthNow 15 = .ok (.iload_n 1, 1) := by decide +kernel
theorem dX3_worthNow_16 : decode cX3_worthNow 16 = .ok (.iconst (-1), 1) := by decide +kernel
theorem dX3_worthNow_17 : decode cX3_worthNow 17 = .ok (.if_icmp .ne 7, 3) := by decide +kernel
theorem dX3_worthNow_20 : decode cX3_worthNow 20 = .ok (.sipush (-9999), 3) := by decide +kernel
theorem dX3_worthNow_23 : decode cX3_worthNow 23 = .ok (.ireturn, 1) := by decide +kernel
theorem dX3_worthNow_24 : decode cX3_worthNow 24 = .ok (.iconst 3, 1) := by decide +kernel
theorem dX3_worthNow_25 : decode cX3_worthNow 25 = .ok (.iload_n 1, 1) := by decide +kernel
theorem dX3_worthNow_26 : decode cX3_worthNow 26 = .ok (.imul, 1) := by decide +kernel
theorem dX3_worthNow_27 : decode cX3_worthNow 27 = .ok (.iconst 2, 1) := by decide +kernel
theorem dX3_worthNow_28 : decode cX3_worthNow 28 = .ok (.aload_n 0, 1) := by decide +kernel
theorem dX3_worthNow_29 : decode cX3_worthNow 29 = .ok (.invokevirtual 80, 3) := by decide +kernel
theorem dX3_worthNow_32 : decode cX3_worthNow 32 = .ok (.imul, 1) := by decide +kernel
theorem dX3_worthNow_33 : decode cX3_worthNow 33 = .ok (.iadd, 1) := by decide +kernel
theorem dX3_worthNow_34 : decode cX3_worthNow 34 = .ok (.aload_n 0, 1) := by decide +kernel
theorem dX3_worthNow_35 : decode cX3_worthNow 35 = .ok (.invokevirtual 83, 3) := by decide +kernel
theorem dX3_worthNow_38 : decode cX3_worthNow 38 = .ok (.isub, 1) := by decide +kernel
theorem dX3_worthNow_39 : decode cX3_worthNow 39 = .ok (.ireturn, 1) := by decide +kernel
theorem dX4_init_0 : decode cX4_init 0 = .ok (.aload_n 0, 1) := by decide +kernel
theorem dX4_init_1 : decode cX4_init 1 = .ok (.invokespecial 3, 3) := by decide +kernel
theorem dX4_init_4 : decode cX4_init 4 = .ok (.aload_n 0, 1) := by decide +kernel
theorem dX4_init_5 : decode cX4_init 5 = .ok (.bipush 8, 2) := by decide +kernel
theorem dX4_init_7 : decode cX4_init 7 = .ok (.newarray .int, 2) := by decide +kernel
theorem dX4_init_9 : decode cX4_init 9 = .ok (.putfield 9, 3) := by decide +kernel
theorem dX4_init_12 : decode cX4_init 12 = .ok (.aload_n 0, 1) := by decide +kernel
theorem dX4_init_13 : decode cX4_init 13 = .ok (.iconst 0, 1) := by decide +kernel
theorem dX4_init_14 : decode cX4_init 14 = .ok (.putfield 15, 3) := by decide +kernel
theorem dX4_init_17 : decode cX4_init 17 = .ok (.return_, 1) := by decide +kernel
theorem dX4_codeOf_0 : decode cX4_codeOf 0 = .ok (.bipush 10, 2) := by decide +kernel
theorem dX4_codeOf_2 : decode cX4_codeOf 2 = .ok (.iload_n 0, 1) := by decide +kernel
theorem dX4_codeOf_3 : decode cX4_codeOf 3 = .ok (.imul, 1) := by decide +kernel
theorem dX4_codeOf_4 : decode cX4_codeOf 4 = .ok (.iload_n 1, 1) := by decide +kernel
theorem dX4_codeOf_5 : decode cX4_codeOf 5 = .ok (.iadd, 1) := by decide +kernel
theorem dX4_codeOf_6 : decode cX4_codeOf 6 = .ok (.ireturn, 1) := by decide +kernel
set_option maxRecDepth 20000 in
theorem ggX4_turnedRound_X4_codeOf : GoodIn wsX4_turnedRound wsX4_codeOf := goodIn_r _ [4] (by decide +kernel) (by decide +kernel)
set_option maxRecDepth 20000 in
theorem gX4_turnedRound_X4_codeOf : GoodIn wsX4_turnedRound (va_wsS RX4 19 yX4_codeOf wsX4_codeOf) := goodIn_app (goodIn_of _ (by decide +kernel)) ggX4_turnedRound_X4_codeOf
theorem dX4_turnedRound_0 : decode cX4_turnedRound 0 = .ok (.iload_n 0, 1) := by decide +kernel
theorem dX4_turnedRound_1 : decode cX4_turnedRound 1 = .ok (.bipush 10, 2) := by decide +kernel
theorem dX4_turnedRound_3 : decode cX4_turnedRound 3 = .ok (.irem, 1) := by decide +kernel
theorem dX4_turnedRound_4 : decode cX4_turnedRound 4 = .ok (.iload_n 0, 1) := by decide +kernel
theorem dX4_turnedRound_5 : decode cX4_turnedRound 5 = .ok (.bipush 10, 2) := by decide +kernel
theorem dX4_turnedRound_7 : decode cX4_turnedRound 7 = .ok (.idiv, 1) := by decide +kernel
theorem dX4_turnedRound_8 : decode cX4_turnedRound 8 = .ok (.invokestatic 19, 3) := by decide +kernel
theorem dX4_turnedRound_11 : decode cX4_turnedRound 11 = .ok (.ireturn, 1) := by decide +kernel
theorem dX4_size_0 : decode cX4_size 0 = .ok (.aload_n 0, 1) := by decide +kernel
theorem dX4_size_1 : decode cX4_size 1 = .ok (.getfield 15, 3) := by decide +kernel
theorem dX4_size_4 : decode cX4_size 4 = .ok (.ireturn, 1) := by decide +kernel
theorem dX4_codeAt_0 : decode cX4_codeAt 0 = .ok (.iload_n 1, 1) := by decide +kernel
theorem dX4_codeAt_1 : decode cX4_codeAt 1 = .ok (.ifCond .lt 20, 3) := by decide +kernel
theorem dX4_codeAt_4 : decode cX4_codeAt 4 = .ok (.iload_n 1, 1) := by decide +kernel
theorem dX4_codeAt_5 : decode cX4_codeAt 5 = .ok (.aload_n 0, 1) := by decide +kernel
theorem dX4_codeAt_6 : decode cX4_codeAt 6 = .ok (.getfield 15, 3) := by decide +kernel
theorem dX4_codeAt_9 : decode cX4_codeAt 9 = .ok (.if_icmp .ge 12, 3) := by decide +kernel
theorem dX4_codeAt_12 : decode cX4_codeAt 12 = .ok (.aload_n 0, 1) := by decide +kernel
theorem dX4_codeAt_13 : decode cX4_codeAt 13 = .ok (.getfield 9, 3) := by decide +kernel
theorem dX4_codeAt_16 : decode cX4_codeAt 16 = .ok (.iload_n 1, 1) := by decide +kernel
theorem dX4_codeAt_17 : decode cX4_codeAt 17 = .ok (.iaload, 1) := by decide +kernel
theorem dX4_codeAt_18 : decode cX4_codeAt 18 = .ok (.goto 4, 3) := by decide +kernel
theorem dX4_codeAt_21 : decode cX4_codeAt 21 = .ok (.iconst (-1), 1) := by decide +kernel
theorem dX4_codeAt_22 : decode cX4_codeAt 22 = .ok (.ireturn, 1) := by decide +kernel
theorem dX4_add_0 : decode cX4_add 0 = .ok (.aload_n 0, 1) := by decide +kernel
theorem dX4_add_1 : decode cX4_add 1 = .ok (.getfield 15, 3) := by decide +kernel
theorem dX4_add_4 : decode cX4_add 4 = .ok (.bipush 8, 2) := by decide +kernel
theorem dX4_add_6 : decode cX4_add 6 = .ok (.if_icmp .ge 23, 3) := by decide +kernel
theorem dX4_add_9 : decode cX4_add 9 = .ok (.aload_n 0, 1) := by decide +kernel
theorem dX4_add_10 : decode cX4_add 10 = .ok (.getfield 9, 3) := by decide +kernel
theorem dX4_add_13 : decode cX4_add 13 = .ok (.aload_n 0, 1) := by decide +kernel
theorem dX4_add_14 : decode cX4_add 14 = .ok (.getfield 15, 3) := by decide +kernel
theorem dX4_add_17 : decode cX4_add 17 = .ok (.iload_n 1, 1) := by decide +kernel
theorem dX4_add_18 : decode cX4_add 18 = .ok (.iastore, 1) := by decide +kernel
theorem dX4_add_19 : decode cX4_add 19 = .ok (.aload_n 0, 1) := by decide +kernel
theorem dX4_add_20 : decode cX4_add 20 = .ok (.dup, 1) := by decide +kernel
theorem dX4_add_21 : decode cX4_add 21 = .ok (.getfield 15, 3) := by decide +kernel
theorem dX4_add_24 : decode cX4_add 24 = .ok (.iconst 1, 1) := by decide +kernel
theorem dX4_add_25 : decode cX4_add 25 = .ok (.iadd, 1) := by decide +kernel
theorem dX4_add_26 : decode cX4_add 26 = .ok (.putfield 15, 3) := by decide +kernel
theorem dX4_add_29 : decode cX4_add 29 = .ok (.return_, 1) := by decide +kernel
set_option maxRecDepth 20000 in
theorem ggX4_addAll_X4_size : GoodIn wsX4_addAll wsX4_size := goodIn_r _ [5, 6, 16, 17] (by decide +kernel) (by decide +kernel)
set_option maxRecDepth 20000 in
theorem gX4_addAll_X4_size : GoodIn wsX4_addAll (wsV RX4 23 RX4 yX4_size wsX4_size) := goodIn_app (goodIn_of _ (by decide +kernel)) ggX4_addAll_X4_size
set_option maxRecDepth 20000 in
theorem ggX4_addAll_X4_codeAt : GoodIn wsX4_addAll wsX4_codeAt := goodIn_r _ [10, 6, 11, 16, 17] (by decide +kernel) (by decide +kernel)
set_option maxRecDepth 20000 in
theorem gX4_addAll_X4_codeAt : GoodIn wsX4_addAll (wsV RX4 27 RX4 yX4_codeAt wsX4_codeAt) := goodIn_app (goodIn_of _ (by decide +kernel)) ggX4_addAll_X4_codeAt
set_option maxRecDepth 20000 in
theorem ggX4_addAll_X4_add : GoodIn wsX4_addAll wsX4_add := goodIn_r _ [15, 6, 11, 16, 17] (by decide +kernel) (by decide +kernel)
set_option maxRecDepth 20000 in
theorem gX4_addAll_X4_add : GoodIn wsX4_addAll (wsV RX4 31 RX4 yX4_add wsX4_add) := goodIn_app (goodIn_of _ (by decide +kernel)) ggX4_addAll_X4_add
theorem dX4_addAll_0 : decode cX4_addAll 0 = .ok (.iconst 0, 1) := by decide +kernel
theorem dX4_addAll_1 : decode cX4_addAll 1 = .ok (.istore_n 2, 1) := by decide +kernel
theorem dX4_addAll_2 : decode cX4_addAll 2 = .ok (.iload_n 2, 1) := by decide +kernel
theorem dX4_addAll_3 : decode cX4_addAll 3 = .ok (.aload_n 1, 1) := by decide +kernel
theorem dX4_addAll_4 : decode cX4_addAll 4 = .ok (.invokevirtual 23, 3) := by decide +kernel
theorem dX4_addAll_7 : decode cX4_addAll 7 = .ok (.if_icmp .ge 18, 3) := by decide +kernel
theorem dX4_addAll_10 : decode cX4_addAll 10 = .ok (.aload_n 0, 1) := by decide +kernel
theorem dX4_addAll_11 : decode cX4_addAll 11 = .ok (.aload_n 1, 1) := by decide +kernel
theorem dX4_addAll_12 : decode cX4_addAll 12 = .ok (.iload_n 2, 1) := by decide +kernel
theorem dX4_addAll_13 : decode cX4_addAll 13 = .ok (.invokevirtual 27, 3) := by decide +kernel
theorem dX4_addAll_16 : decode cX4_addAll 16 = .ok (.invokevirtual 31, 3) := by decide +kernel
theorem dX4_addAll_19 : decode cX4_addAll 19 = .ok (.iinc 2 1, 3) := by decide +kernel
theorem dX4_addAll_22 : decode cX4_addAll 22 = .ok (.goto (-20), 3) := by decide +kernel
theorem dX4_addAll_25 : decode cX4_addAll 25 = .ok (.return_, 1) := by decide +kernel
theorem dX4_clear_0 : decode cX4_clear 0 = .ok (.aload_n 0, 1) := by decide +kernel
theorem dX4_clear_1 : decode cX4_clear 1 = .ok (.iconst 0, 1) := by decide +kernel
theorem dX4_clear_2 : decode cX4_clear 2 = .ok (.putfield 15, 3) := by decide +kernel
theorem dX4_clear_5 : decode cX4_clear 5 = .ok (.return_, 1) := by decide +kernel
set_option maxRecDepth 20000 in
theorem ggX4_firstOnLineOf_X4_turnedRound : GoodIn wsX4_firstOnLineOf wsX4_turnedRound := goodIn_r _ [6, 7, 8, 5, 9] (by decide +kernel) (by decide +kernel)
set_option maxRecDepth 20000 in
theorem gX4_firstOnLineOf_X4_turnedRound : GoodIn wsX4_firstOnLineOf (va_wsS RX4 35 yX4_turnedRound wsX4_turnedRound) := goodIn_app (goodIn_of _ (by decide +kernel)) ggX4_firstOnLineOf_X4_turnedRound
theorem dX4_firstOnLineOf_0 : decode cX4_firstOnLineOf 0 = .ok (.iconst 0, 1) := by decide +kernel
theorem dX4_firstOnLineOf_1 : decode cX4_firstOnLineOf 1 = .ok (.istore_n 2, 1) := by decide +kernel
theorem dX4_firstOnLineOf_2 : decode cX4_firstOnLineOf 2 = .ok (.iload_n 2, 1) := by decide +kernel
theorem dX4_firstOnLineOf_3 : decode cX4_firstOnLineOf 3 = .ok (.aload_n 0, 1) := by decide +kernel
theorem dX4_firstOnLineOf_4 : decode cX4_firstOnLineOf 4 = .ok (.getfield 15, 3) := by decide +kernel
theorem dX4_firstOnLineOf_7 : decode cX4_firstOnLineOf 7 = .ok (.if_icmp .ge 34, 3) := by decide +kernel
theorem dX4_firstOnLineOf_10 : decode cX4_firstOnLineOf 10 = .ok (.aload_n 0, 1) := by decide +kernel
theorem dX4_firstOnLineOf_11 : decode cX4_firstOnLineOf 11 = .ok (.getfield 9, 3) := by decide +kernel
theorem dX4_firstOnLineOf_14 : decode cX4_firstOnLineOf 14 = .ok (.iload_n 2, 1) := by decide +kernel
theorem dX4_firstOnLineOf_15 : decode cX4_firstOnLineOf 15 = .ok (.iaload, 1) := by decide +kernel
theorem dX4_firstOnLineOf_16 : decode cX4_firstOnLineOf 16 = .ok (.iload_n 1, 1) := by decide +kernel
theorem dX4_firstOnLineOf_17 : decode cX4_firstOnLineOf 17 = .ok (.if_icmp .eq 16, 3) := by decide +kernel
theorem dX4_firstOnLineOf_20 : decode cX4_firstOnLineOf 20 = .ok (.aload_n 0, 1) := by decide +kernel
theorem dX4_firstOnLineOf_21 : decode cX4_firstOnLineOf 21 = .ok (.getfield 9, 3) := by decide +kernel
theorem dX4_firstOnLineOf_24 : decode cX4_firstOnLineOf 24 = .ok (.iload_n 2, 1) := by decide +kernel
theorem dX4_firstOnLineOf_25 : decode cX4_firstOnLineOf 25 = .ok (.iaload, 1) := by decide +kernel
theorem dX4_firstOnLineOf_26 : decode cX4_firstOnLineOf 26 = .ok (.iload_n 1, 1) := by decide +kernel
theorem dX4_firstOnLineOf_27 : decode cX4_firstOnLineOf 27 = .ok (.invokestatic 35, 3) := by decide +kernel
theorem dX4_firstOnLineOf_30 : decode cX4_firstOnLineOf 30 = .ok (.if_icmp .ne 5, 3) := by decide +kernel
theorem dX4_firstOnLineOf_33 : decode cX4_firstOnLineOf 33 = .ok (.iload_n 2, 1) := by decide +kernel
theorem dX4_firstOnLineOf_34 : decode cX4_firstOnLineOf 34 = .ok (.ireturn, 1) := by decide +kernel
theorem dX4_firstOnLineOf_35 : decode cX4_firstOnLineOf 35 = .ok (.iinc 2 1, 3) := by decide +kernel
theorem dX4_firstOnLineOf_38 : decode cX4_firstOnLineOf 38 = .ok (.goto (-36), 3) := by decide +kernel
theorem dX4_firstOnLineOf_41 : decode cX4_firstOnLineOf 41 = .ok (.iconst (-1), 1) := by decide +kernel
theorem dX4_firstOnLineOf_42 : decode cX4_firstOnLineOf 42 = .ok (.ireturn, 1) := by decide +kernel
set_option maxRecDepth 20000 in
theorem ggX4_hasLineTwice_X4_firstOnLineOf : GoodIn wsX4_hasLineTwice wsX4_firstOnLineOf := goodIn_r _ [7, 1, 2, 8, 9, 6, 10, 11, 12, 13, 14, 15] (by decide +kernel) (by decide +kernel)
set_option maxRecDepth 20000 in
theorem gX4_hasLineTwice_X4_firstOnLineOf : GoodIn wsX4_hasLineTwice (wsV RX4 38 RX4 yX4_firstOnLineOf wsX4_firstOnLineOf) := goodIn_app (goodIn_of _ (by decide +kernel)) ggX4_hasLineTwice_X4_firstOnLineOf
theorem dX4_hasLineTwice_0 : decode cX4_hasLineTwice 0 = .ok (.iconst 0, 1) := by decide +kernel
theorem dX4_hasLineTwice_1 : decode cX4_hasLineTwice 1 = .ok (.istore_n 1, 1) := by decide +kernel
theorem dX4_hasLineTwice_2 : decode cX4_hasLineTwice 2 = .ok (.iload_n 1, 1) := by decide +kernel
theorem dX4_hasLineTwice_3 : decode cX4_hasLineTwice 3 = .ok (.aload_n 0, 1) := by decide +kernel
theorem dX4_hasLineTwice_4 : decode cX4_hasLineTwice 4 = .ok (.getfield 15, 3) := by decide +kernel
theorem dX4_hasLineTwice_7 : decode cX4_hasLineTwice 7 = .ok (.if_icmp .ge 25, 3) := by decide +kernel
theorem dX4_hasLineTwice_10 : decode cX4_hasLineTwice 10 = .ok (.aload_n 0, 1) := by decide +kernel
theorem dX4_hasLineTwice_11 : decode cX4_hasLineTwice 11 = .ok (.aload_n 0, 1) := by decide +kernel
theorem dX4_hasLineTwice_12 : decode cX4_hasLineTwice 12 = .ok (.getfield 9, 3) := by decide +kernel
theorem dX4_hasLineTwice_15 : decode cX4_hasLineTwice 15 = .ok (.iload_n 1, 1) := by decide +kernel
theorem dX4_hasLineTwice_16 : decode cX4_hasLineTwice 16 = .ok (.iaload, 1) := by decide +kernel
theorem dX4_hasLineTwice_17 : decode cX4_hasLineTwice 17 = .ok (.invokevirtual 38, 3) := by decide +kernel
theorem dX4_hasLineTwice_20 : decode cX4_hasLineTwice 20 = .ok (.iload_n 1, 1) := by decide +kernel
theorem dX4_hasLineTwice_21 : decode cX4_hasLineTwice 21 = .ok (.if_icmp .ge 5, 3) := by decide +kernel
theorem dX4_hasLineTwice_24 : decode cX4_hasLineTwice 24 = .ok (.iconst 1, 1) := by decide +kernel
theorem dX4_hasLineTwice_25 : decode cX4_hasLineTwice 25 = .ok (.ireturn, 1) := by decide +kernel
theorem dX4_hasLineTwice_26 : decode cX4_hasLineTwice 26 = .ok (.iinc 1 1, 3) := by decide +kernel
theorem dX4_hasLineTwice_29 : decode cX4_hasLineTwice 29 = .ok (.goto (-27), 3) := by decide +kernel
theorem dX4_hasLineTwice_32 : decode cX4_hasLineTwice 32 = .ok (.iconst 0, 1) := by decide +kernel
theorem dX4_hasLineTwice_33 : decode cX4_hasLineTwice 33 = .ok (.ireturn, 1) := by decide +kernel
set_option maxRecDepth 20000 in
theorem ggX5_init_X4_init : GoodIn wsX5_init wsX4_init := goodIn_r _ [22, 23, 2, 3, 24, 25, 26, 48, 49] (by decide +kernel) (by decide +kernel)
set_option maxRecDepth 20000 in
theorem gX5_init_X4_init : GoodIn wsX5_init (wsX4_init) := ggX5_init_X4_init
set_option maxRecDepth 20000 in
theorem ggX5_init_X1_init : GoodIn wsX5_init wsX1_init := goodIn_r _ [29, 30, 2, 3, 24, 31, 32, 56, 57] (by decide +kernel) (by decide +kernel)
set_option maxRecDepth 20000 in
theorem gX5_init_X1_init : GoodIn wsX5_init (wsX1_init) := ggX5_init_X1_init
set_option maxRecDepth 20000 in
theorem ggX5_init_Jx4a65c_init_da8c8 : GoodIn wsX5_init wsJx4a65c_init_da8c8 := goodIn_r _ [35, 36, 37, 38, 39, 40, 41, 42, 43, 44, 45, 46, 47, 2, 3, 58, 59, 60] (by decide +kernel) (by decide +kernel)
set_option maxRecDepth 20000 in
theorem gX5_init_Jx4a65c_init_da8c8 : GoodIn wsX5_init (wsJx4a65c_init_da8c8) := ggX5_init_Jx4a65c_init_da8c8
theorem dX5_init_0 : decode cX5_init 0 = .ok (.aload_n 0, 1) := by decide +kernel
theorem dX5_init_1 : decode cX5_init 1 = .ok (.invokespecial 1, 3) := by decide +kernel
theorem dX5_init_4 : decode cX5_init 4 = .ok (.aload_n 0, 1) := by decide +kernel
theorem dX5_init_5 : decode cX5_init 5 = .ok (.new 7, 3) := by decide +kernel
theorem dX5_init_8 : decode cX5_init 8 = .ok (.dup, 1) := by decide +kernel
theorem dX5_init_9 : decode cX5_init 9 = .ok (.invokespecial 9, 3) := by decide +kernel
theorem dX5_init_12 : decode cX5_init 12 = .ok (.putfield 10, 3) := by decide +kernel
theorem dX5_init_15 : decode cX5_init 15 = .ok (.aload_n 0, 1) := by decide +kernel
theorem dX5_init_16 : decode cX5_init 16 = .ok (.new 16, 3) := by decide +kernel
theorem dX5_init_19 : decode cX5_init 19 = .ok (.dup, 1) := by decide +kernel
theorem dX5_init_20 : decode cX5_init 20 = .ok (.invokespecial 18, 3) := by decide +kernel
theorem dX5_init_23 : decode cX5_init 23 = .ok (.putfield 19, 3) := by decide +kernel
theorem dX5_init_26 : decode cX5_init 26 = .ok (.aload_n 0, 1) := by decide +kernel
theorem dX5_init_27 : decode cX5_init 27 = .ok (.new 23, 3) := by decide +kernel
theorem dX5_init_30 : decode cX5_init 30 = .ok (.dup, 1) := by decide +kernel
theorem dX5_init_31 : decode cX5_init 31 = .ok (.invokespecial 25, 3) := by decide +kernel
theorem dX5_init_34 : decode cX5_init 34 = .ok (.putfield 26, 3) := by decide +kernel
theorem dX5_init_37 : decode cX5_init 37 = .ok (.aload_n 0, 1) := by decide +kernel
theorem dX5_init_38 : decode cX5_init 38 = .ok (.new 23, 3) := by decide +kernel
theorem dX5_init_41 : decode cX5_init 41 = .ok (.dup, 1) := by decide +kernel
theorem dX5_init_42 : decode cX5_init 42 = .ok (.invokespecial 25, 3) := by decide +kernel
theorem dX5_init_45 : decode cX5_init 45 = .ok (.putfield 30, 3) := by decide +kernel
theorem dX5_init_48 : decode cX5_init 48 = .ok (.aload_n 0, 1) := by decide +kernel
theorem dX5_init_49 : decode cX5_init 49 = .ok (.new 23, 3) := by decide +kernel
theorem dX5_init_52 : decode cX5_init 52 = .ok (.dup, 1) := by decide +kernel
theorem dX5_init_53 : decode cX5_init 53 = .ok (.invokespecial 25, 3) := by decide +kernel
theorem dX5_init_56 : decode cX5_init 56 = .ok (.putfield 33, 3) := by decide +kernel
theorem dX5_init_59 : decode cX5_init 59 = .ok (.aload_n 0, 1) := by decide +kernel
theorem dX5_init_60 : decode cX5_init 60 = .ok (.bipush 6, 2) := by decide +kernel
theorem dX5_init_62 : decode cX5_init 62 = .ok (.newarray .boolean, 2) := by decide +kernel
theorem dX5_init_64 : decode cX5_init 64 = .ok (.putfield 36, 3) := by decide +kernel
theorem dX5_init_67 : decode cX5_init 67 = .ok (.return_, 1) := by decide +kernel
set_option maxRecDepth 20000 in
theorem ggX5_stroke_X5_checkDot : GoodIn wsX5_stroke wsX5_checkDot := goodIn_ca (goodIn_r _ [9, 10, 11] (by decide +kernel) (by decide +kernel)) (goodIn_sub (fun _ h => List.mem_cons_of_mem _ (List.mem_append_right _ h)) (by decide +kernel))
set_option maxRecDepth 20000 in
theorem gX5_stroke_X5_checkDot : GoodIn wsX5_stroke (va_wsS RX5 40 yX5_checkDot wsX5_checkDot) := goodIn_app (goodIn_of _ (by decide +kernel)) ggX5_stroke_X5_checkDot
set_option maxRecDepth 20000 in
theorem ggX5_stroke_X4_size : GoodIn wsX5_stroke wsX4_size := goodIn_r _ [16, 17, 32, 33] (by decide +kernel) (by decide +kernel)
set_option maxRecDepth 20000 in
theorem gX5_stroke_X4_size : GoodIn wsX5_stroke (wsV RX5 51 RX4 yX4_size wsX4_size) := goodIn_app (goodIn_of _ (by decide +kernel)) ggX5_stroke_X4_size
set_option maxRecDepth 20000 in
theorem ggX5_stroke_X4_codeOf : GoodIn wsX5_stroke wsX4_codeOf := goodIn_r _ [20] (by decide +kernel) (by decide +kernel)
set_option maxRecDepth 20000 in
theorem gX5_stroke_X4_codeOf : GoodIn wsX5_stroke (va_wsS RX5 60 yX4_codeOf wsX4_codeOf) := goodIn_app (goodIn_of _ (by decide +kernel)) ggX5_stroke_X4_codeOf
set_option maxRecDepth 20000 in
theorem ggX5_stroke_X4_add : GoodIn wsX5_stroke wsX4_add := goodIn_r _ [24, 17, 25, 32, 33] (by decide +kernel) (by decide +kernel)
set_option maxRecDepth 20000 in
theorem gX5_stroke_X4_add : GoodIn wsX5_stroke (wsV RX5 64 RX4 yX4_add wsX4_add) := goodIn_app (goodIn_of _ (by decide +kernel)) ggX5_stroke_X4_add
theorem dX5_stroke_0 : decode cX5_stroke 0 = .ok (.iload_n 1, 1) := by decide +kernel
theorem dX5_stroke_1 : decode cX5_stroke 1 = .ok (.invokestatic 40, 3) := by decide +kernel
theorem dX5_stroke_4 : decode cX5_stroke 4 = .ok (.iload_n 2, 1) := by decide +kernel
theorem dX5_stroke_5 : decode cX5_stroke 5 = .ok (.invokestatic 40, 3) := by decide +kernel
theorem dX5_stroke_8 : decode cX5_stroke 8 = .ok (.iload_n 1, 1) := by decide +kernel
theorem dX5_stroke_9 : decode cX5_stroke 9 = .ok (.iload_n 2, 1) := by decide +kernel
theorem dX5_stroke_10 : decode cX5_stroke 10 = .ok (.if_icmp .ne 13, 3) := by decide +kernel
theorem dX5_stroke_13 : decode cX5_stroke 13 = .ok (.new 44, 3) := by decide +kernel
theorem dX5_stroke_16 : decode cX5_stroke 16 = .ok (.dup, 1) := by decide +kernel
theorem dX5_stroke_17 : decode cX5_stroke 17 = .ok (.ldc 46, 2) := by decide +kernel
theorem dX5_stroke_19 : decode cX5_stroke 19 = .ok (.invokespecial 48, 3) := by decide +kernel
theorem dX5_stroke_22 : decode cX5_stroke 22 = .ok (.athrow, 1) := by decide +kernel
theorem dX5_stroke_23 : decode cX5_stroke 23 = .ok (.aload_n 0, 1) := by decide +kernel
theorem dX5_stroke_24 : decode cX5_stroke 24 = .ok (.getfield 10, 3) := by decide +kernel
theorem dX5_stroke_27 : decode cX5_stroke 27 = .ok (.invokevirtual 51, 3) := by decide +kernel
theorem dX5_stroke_30 : decode cX5_stroke 30 = .ok (.bipush 8, 2) := by decide +kernel
theorem dX5_stroke_32 : decode cX5_stroke 32 = .ok (.if_icmp .lt 13, 3) := by decide +kernel
theorem dX5_stroke_35 : decode cX5_stroke 35 = .ok (.new 55, 3) := by decide +kernel
theorem dX5_stroke_38 : decode cX5_stroke 38 = .ok (.dup, 1) := by decide +kernel
theorem dX5_stroke_39 : decode cX5_stroke 39 = .ok (.ldc 57, 2) := by decide +kernel
theorem dX5_stroke_41 : decode cX5_stroke 41 = .ok (.invokespecial 59, 3) := by decide +kernel
theorem dX5_stroke_44 : decode cX5_stroke 44 = .ok (.athrow, 1) := by decide +kernel
theorem dX5_stroke_45 : decode cX5_stroke 45 = .ok (.aload_n 0, 1) := by decide +kernel
theorem dX5_stroke_46 : decode cX5_stroke 46 = .ok (.getfield 10, 3) := by decide +kernel
theorem dX5_stroke_49 : decode cX5_stroke 49 = .ok (.iload_n 1, 1) := by decide +kernel
theorem dX5_stroke_50 : decode cX5_stroke 50 = .ok (.iload_n 2, 1) := by decide +kernel
theorem dX5_stroke_51 : decode cX5_stroke 51 = .ok (.invokestatic 60, 3) := by decide +kernel
theorem dX5_stroke_54 : decode cX5_stroke 54 = .ok (.invokevirtual 64, 3) := by decide +kernel
theorem dX5_stroke_57 : decode cX5_stroke 57 = .ok (.aload_n 0, 1) := by decide +kernel
theorem dX5_stroke_58 : decode cX5_stroke 58 = .ok (.getfield 10, 3) := by decide +kernel
theorem dX5_stroke_61 : decode cX5_stroke 61 = .ok (.invokevirtual 51, 3) := by decide +kernel
theorem dX5_stroke_64 : decode cX5_stroke 64 = .ok (.ireturn, 1) := by decide +kernel
set_option maxRecDepth 20000 in
theorem ggX5_lift_X4_size : GoodIn wsX5_lift wsX4_size := goodIn_r _ [6, 7, 18, 19] (by decide +kernel) (by decide +kernel)
set_option maxRecDepth 20000 in
theorem gX5_lift_X4_size : GoodIn wsX5_lift (wsV RX5 51 RX4 yX4_size wsX4_size) := goodIn_app (goodIn_of _ (by decide +kernel)) ggX5_lift_X4_size
set_option maxRecDepth 20000 in
theorem ggX5_lift_X4_clear : GoodIn wsX5_lift wsX4_clear := goodIn_r _ [11, 7, 18, 19] (by decide +kernel) (by decide +kernel)
set_option maxRecDepth 20000 in
theorem gX5_lift_X4_clear : GoodIn wsX5_lift (wsV RX5 67 RX4 yX4_clear wsX4_clear) := goodIn_app (goodIn_of _ (by decide +kernel)) ggX5_lift_X4_clear
theorem dX5_lift_0 : decode cX5_lift 0 = .ok (.aload_n 0, 1) := by decide +kernel
theorem dX5_lift_1 : decode cX5_lift 1 = .ok (.getfield 10, 3) := by decide +kernel
theorem dX5_lift_4 : decode cX5_lift 4 = .ok (.invokevirtual 51, 3) := by decide +kernel
theorem dX5_lift_7 : decode cX5_lift 7 = .ok (.istore_n 1, 1) := by decide +kernel
theorem dX5_lift_8 : decode cX5_lift 8 = .ok (.aload_n 0, 1) := by decide +kernel
theorem dX5_lift_9 : decode cX5_lift 9 = .ok (.getfield 10, 3) := by decide +kernel
theorem dX5_lift_12 : decode cX5_lift 12 = .ok (.invokevirtual 67, 3) := by decide +kernel
theorem dX5_lift_15 : decode cX5_lift 15 = .ok (.iload_n 1, 1) := by decide +kernel
theorem dX5_lift_16 : decode cX5_lift 16 = .ok (.ireturn, 1) := by decide +kernel
set_option maxRecDepth 20000 in
theorem ggX5_letter_X4_size : GoodIn wsX5_letter wsX4_size := goodIn_r _ [11, 12, 118, 119] (by decide +kernel) (by decide +kernel)
set_option maxRecDepth 20000 in
theorem gX5_letter_X4_size : GoodIn wsX5_letter (wsV RX5 51 RX4 yX4_size wsX4_size) := goodIn_app (goodIn_of _ (by decide +kernel)) ggX5_letter_X4_size
set_option maxRecDepth 20000 in
theorem ggX5_letter_X4_hasLineTwice : GoodIn wsX5_letter wsX4_hasLineTwice := goodIn_r _ [16, 12, 17, 18, 19, 20, 7, 21, 22, 23, 24, 25, 26, 27, 118, 119] (by decide +kernel) (by decide +kernel)
set_option maxRecDepth 20000 in
theorem gX5_letter_X4_hasLineTwice : GoodIn wsX5_letter (wsV RX5 72 RX4 yX4_hasLineTwice wsX4_hasLineTwice) := goodIn_app (goodIn_of _ (by decide +kernel)) ggX5_letter_X4_hasLineTwice
set_option maxRecDepth 20000 in
theorem ggX5_letter_Jx4a65c_size_8abf5 : GoodIn wsX5_letter wsJx4a65c_size_8abf5 := goodIn_r _ [32, 33, 120, 121, 122] (by decide +kernel) (by decide +kernel)
set_option maxRecDepth 20000 in
theorem gX5_letter_Jx4a65c_size_8abf5 : GoodIn wsX5_letter (wsV RX5 78 RJx4a65c yJx4a65c_size_8abf5 wsJx4a65c_size_8abf5) := goodIn_app (goodIn_of _ (by decide +kernel)) ggX5_letter_Jx4a65c_size_8abf5
set_option maxRecDepth 20000 in
theorem ggX5_letter_X4_init : GoodIn wsX5_letter wsX4_init := goodIn_r _ [36, 37, 38, 39, 40, 17, 12, 118, 119] (by decide +kernel) (by decide +kernel)
set_option maxRecDepth 20000 in
theorem gX5_letter_X4_init : GoodIn wsX5_letter (wsX4_init) := ggX5_letter_X4_init
set_option maxRecDepth 20000 in
theorem ggX5_letter_X4_addAll : GoodIn wsX5_letter wsX4_addAll := goodIn_r _ [44, 45, 9, 10, 7, 11, 12, 46, 47, 48, 49, 17, 50, 51, 52, 53, 118, 119] (by decide +kernel) (by decide +kernel)
set_option maxRecDepth 20000 in
theorem gX5_letter_X4_addAll : GoodIn wsX5_letter (wsV RX5 81 RX4 yX4_addAll wsX4_addAll) := goodIn_app (goodIn_of _ (by decide +kernel)) ggX5_letter_X4_addAll
set_option maxRecDepth 20000 in
theorem ggX5_letter_Jx4a65c_add_9ea2d : GoodIn wsX5_letter wsJx4a65c_add_9ea2d := goodIn_r _ [57, 58, 59, 60, 33, 61, 62, 63, 31, 64, 65, 66, 67, 68, 69, 70, 71, 72, 73, 74, 75, 76, 77, 78, 79, 80, 81, 82, 83, 84, 85, 86, 87, 88, 89, 90, 91, 92, 93, 94, 95, 96, 97, 98, 99, 100, 101, 102, 103, 104, 105, 106, 107, 120, 121, 122] (by decide +kernel) (by decide +kernel)
set_option maxRecDepth 20000 in
theorem gX5_letter_Jx4a65c_add_9ea2d : GoodIn wsX5_letter (wsV RX5 85 RJx4a65c yJx4a65c_add_9ea2d wsJx4a65c_add_9ea2d) := goodIn_app (goodIn_of _ (by decide +kernel)) ggX5_letter_Jx4a65c_add_9ea2d
set_option maxRecDepth 20000 in
theorem ggX5_letter_X4_clear : GoodIn wsX5_letter wsX4_clear := goodIn_r _ [111, 12, 118, 119] (by decide +kernel) (by decide +kernel)
set_option maxRecDepth 20000 in
theorem gX5_letter_X4_clear : GoodIn wsX5_letter (wsV RX5 67 RX4 yX4_clear wsX4_clear) := goodIn_app (goodIn_of _ (by decide +kernel)) ggX5_letter_X4_clear
theorem dX5_letter_0 : decode cX5_letter 0 = .ok (.aload_n 0, 1) := by decide +kernel
theorem dX5_letter_1 : decode cX5_letter 1 = .ok (.getfield 10, 3) := by decide +kernel
theorem dX5_letter_4 : decode cX5_letter 4 = .ok (.invokevirtual 51, 3) := by decide +kernel
theorem dX5_letter_7 : decode cX5_letter 7 = .ok (.ifCond .eq 15, 3) := by decide +kernel
theorem dX5_letter_10 : decode cX5_letter 10 = .ok (.aload_n 0, 1) := by decide +kernel
theorem dX5_letter_11 : decode cX5_letter 11 = .ok (.getfield 10, 3) := by decide +kernel
theorem dX5_letter_14 : decode cX5_letter 14 = .ok (.invokevirtual 51, 3) := by decide +kernel
theorem dX5_letter_17 : decode cX5_letter 17 = .ok (.bipush 6, 2) := by decide +kernel
theorem dX5_letter_19 : decode cX5_letter 19 = .ok (.if_icmp .le 13, 3) := by decide +kernel
theorem dX5_letter_22 : decode cX5_letter 22 = .ok (.new 55, 3) := by decide +kernel
theorem dX5_letter_25 : decode cX5_letter 25 = .ok (.dup, 1) := by decide +kernel
theorem dX5_letter_26 : decode cX5_letter 26 = .ok (.ldc 70, 2) := by decide +kernel
theorem dX5_letter_28 : decode cX5_letter 28 = .ok (.invokespecial 59, 3) := by decide +kernel
theorem dX5_letter_31 : decode cX5_letter 31 = .ok (.athrow, 1) := by decide +kernel
theorem dX5_letter_32 : decode cX5_letter 32 = .ok (.aload_n 0, 1) := by decide +kernel
theorem dX5_letter_33 : decode cX5_letter 33 = .ok (.getfield 10, 3) := by decide +kernel
theorem dX5_letter_36 : decode cX5_letter 36 = .ok (.invokevirtual 72, 3) := by decide +kernel
theorem dX5_letter_39 : decode cX5_letter 39 = .ok (.ifCond .eq 13, 3) := by decide +kernel
theorem dX5_letter_42 : decode cX5_letter 42 = .ok (.new 55, 3) := by decide +kernel
theorem dX5_letter_45 : decode cX5_letter 45 = .ok (.dup, 1) := by decide +kernel
theorem dX5_letter_46 : decode cX5_letter 46 = .ok (.ldc 76, 2) := by decide +kernel
theorem dX5_letter_48 : decode cX5_letter 48 = .ok (.invokespecial 59, 3) := by decide +kernel
theorem dX5_letter_51 : decode cX5_letter 51 = .ok (.athrow, 1) := by decide +kernel
theorem dX5_letter_52 : decode cX5_letter 52 = .ok (.aload_n 0, 1) := by decide +kernel
theorem dX5_letter_53 : decode cX5_letter 53 = .ok (.getfield 26, 3) := by decide +kernel
theorem dX5_letter_56 : decode cX5_letter 56 = .ok (.invokevirtual 78, 3) := by decide +kernel
theorem dX5_letter_59 : decode cX5_letter 59 = .ok (.bipush 10, 2) := by decide +kernel
theorem dX5_letter_61 : decode cX5_letter 61 = .ok (.if_icmp .lt 13, 3) := by decide +kernel
theorem dX5_letter_64 : decode cX5_letter 64 = .ok (.new 55, 3) := by decide +kernel
theorem dX5_letter_67 : decode cX5_letter 67 = .ok (.dup, 1) := by decide +kernel
theorem dX5_letter_68 : decode cX5_letter 68 = .ok (.ldc 79, 2) := by decide +kernel
theorem dX5_letter_70 : decode cX5_letter 70 = .ok (.invokespecial 59, 3) := by decide +kernel
theorem dX5_letter_73 : decode cX5_letter 73 = .ok (.athrow, 1) := by decide +kernel
theorem dX5_letter_74 : decode cX5_letter 74 = .ok (.new 7, 3) := by decide +kernel
theorem dX5_letter_77 : decode cX5_letter 77 = .ok (.dup, 1) := by decide +kernel
theorem dX5_letter_78 : decode cX5_letter 78 = .ok (.invokespecial 9, 3) := by decide +kernel
theorem dX5_letter_81 : decode cX5_letter 81 = .ok (.astore_n 1, 1) := by decide +kernel
theorem dX5_letter_82 : decode cX5_letter 82 = .ok (.aload_n 1, 1) := by decide +kernel
theorem dX5_letter_83 : decode cX5_letter 83 = .ok (.aload_n 0, 1) := by decide +kernel
theorem dX5_letter_84 : decode cX5_letter 84 = .ok (.getfield 10, 3) := by decide +kernel
theorem dX5_letter_87 : decode cX5_letter 87 = .ok (.invokevirtual 81, 3) := by decide +kernel
theorem dX5_letter_90 : decode cX5_letter 90 = .ok (.aload_n 0, 1) := by decide +kernel
theorem dX5_letter_91 : decode cX5_letter 91 = .ok (.getfield 26, 3) := by decide +kernel
theorem dX5_letter_94 : decode cX5_letter 94 = .ok (.aload_n 1, 1) := by decide +kernel
theorem dX5_letter_95 : decode cX5_letter 95 = .ok (.invokevirtual 85, 3) := by decide +kernel
theorem dX5_letter_98 : decode cX5_letter 98 = .ok (.pop, 1) := by decide +kernel
theorem dX5_letter_99 : decode cX5_letter 99 = .ok (.aload_n 0, 1) := by decide +kernel
theorem dX5_letter_100 : decode cX5_letter 100 = .ok (.getfield 10, 3) := by decide +kernel
theorem dX5_letter_103 : decode cX5_letter 103 = .ok (.invokevirtual 67, 3) := by decide +kernel
theorem dX5_letter_106 : decode cX5_letter 106 = .ok (.aload_n 0, 1) := by decide +kernel
theorem dX5_letter_107 : decode cX5_letter 107 = .ok (.getfield 26, 3) := by decide +kernel
theorem dX5_letter_110 : decode cX5_letter 110 = .ok (.invokevirtual 78, 3) := by decide +kernel
theorem dX5_letter_113 : decode cX5_letter 113 = .ok (.iconst 1, 1) := by decide +kernel
theorem dX5_letter_114 : decode cX5_letter 114 = .ok (.isub, 1) := by decide +kernel
theorem dX5_letter_115 : decode cX5_letter 115 = .ok (.ireturn, 1) := by decide +kernel
set_option maxRecDepth 20000 in
theorem ggX5_strokeOf_X5_letterNumbered : GoodIn wsX5_strokeOf wsX5_letterNumbered := goodIn_ca (goodIn_r _ [7, 1, 2, 8, 9, 10, 11, 12, 13, 14, 15, 16, 17, 18, 19, 20, 21, 22, 23, 24, 25, 26, 27, 28, 29, 30, 31, 32, 40, 41, 42, 43, 44, 45, 46, 47, 48] (by decide +kernel) (by decide +kernel)) (goodIn_sub (fun _ h => List.mem_cons_of_mem _ (List.mem_append_right _ h)) (by decide +kernel))
set_option maxRecDepth 20000 in
theorem gX5_strokeOf_X5_letterNumbered : GoodIn wsX5_strokeOf (wsV RX5 88 RX5 yX5_letterNumbered wsX5_letterNumbered) := goodIn_app (goodIn_of _ (by decide +kernel)) ggX5_strokeOf_X5_letterNumbered
set_option maxRecDepth 20000 in
theorem ggX5_strokeOf_X4_codeAt : GoodIn wsX5_strokeOf wsX4_codeAt := goodIn_r _ [37, 38, 39, 49, 50] (by decide +kernel) (by decide +kernel)
set_option maxRecDepth 20000 in
theorem gX5_strokeOf_X4_codeAt : GoodIn wsX5_strokeOf (wsV RX5 97 RX4 yX4_codeAt wsX4_codeAt) := goodIn_app (goodIn_of _ (by decide +kernel)) ggX5_strokeOf_X4_codeAt
theorem dX5_strokeOf_0 : decode cX5_strokeOf 0 = .ok (.aload_n 0, 1) := by decide +kernel
theorem dX5_strokeOf_1 : decode cX5_strokeOf 1 = .ok (.iload_n 1, 1) := by decide +kernel
theorem dX5_strokeOf_2 : decode cX5_strokeOf 2 = .ok (.invokevirtual 88, 3) := by decide +kernel
theorem dX5_strokeOf_5 : decode cX5_strokeOf 5 = .ok (.astore_n 3, 1) := by decide +kernel
theorem dX5_strokeOf_6 : decode cX5_strokeOf 6 = .ok (.iload_n 2, 1) := by decide +kernel
theorem dX5_strokeOf_7 : decode cX5_strokeOf 7 = .ok (.ifCond .ge 13, 3) := by decide +kernel
theorem dX5_strokeOf_10 : decode cX5_strokeOf 10 = .ok (.new 92, 3) := by decide +kernel
theorem dX5_strokeOf_13 : decode cX5_strokeOf 13 = .ok (.dup, 1) := by decide +kernel
theorem dX5_strokeOf_14 : decode cX5_strokeOf 14 = .ok (.ldc 94, 2) := by decide +kernel
theorem dX5_strokeOf_16 : decode cX5_strokeOf 16 = .ok (.invokespecial 96, 3) := by decide +kernel
theorem dX5_strokeOf_19 : decode cX5_strokeOf 19 = .ok (.athrow, 1) := by decide +kernel
theorem dX5_strokeOf_20 : decode cX5_strokeOf 20 = .ok (.aload_n 3, 1) := by decide +kernel
theorem dX5_strokeOf_21 : decode cX5_strokeOf 21 = .ok (.iload_n 2, 1) := by decide +kernel
theorem dX5_strokeOf_22 : decode cX5_strokeOf 22 = .ok (.invokevirtual 97, 3) := by decide +kernel
theorem dX5_strokeOf_25 : decode cX5_strokeOf 25 = .ok (.ireturn, 1) := by decide +kernel
set_option maxRecDepth 20000 in
theorem ggX5_pupil_X5_checkClass : GoodIn wsX5_pupil wsX5_checkClass := goodIn_ca (goodIn_r _ [12, 13, 14] (by decide +kernel) (by decide +kernel)) (goodIn_sub (fun _ h => List.mem_cons_of_mem _ (List.mem_append_right _ h)) (by decide +kernel))
set_option maxRecDepth 20000 in
theorem gX5_pupil_X5_checkClass : GoodIn wsX5_pupil (va_wsS RX5 101 yX5_checkClass wsX5_checkClass) := goodIn_app (goodIn_of _ (by decide +kernel)) ggX5_pupil_X5_checkClass
set_option maxRecDepth 20000 in
theorem ggX5_pupil_Jx4a65c_size_8abf5 : GoodIn wsX5_pupil wsJx4a65c_size_8abf5 := goodIn_r _ [19, 20, 96, 97, 98] (by decide +kernel) (by decide +kernel)
set_option maxRecDepth 20000 in
theorem gX5_pupil_Jx4a65c_size_8abf5 : GoodIn wsX5_pupil (wsV RX5 78 RJx4a65c yJx4a65c_size_8abf5 wsJx4a65c_size_8abf5) := goodIn_app (goodIn_of _ (by decide +kernel)) ggX5_pupil_Jx4a65c_size_8abf5
set_option maxRecDepth 20000 in
theorem ggX5_pupil_X5_bandOf : GoodIn wsX5_pupil wsX5_bandOf := goodIn_r _ [23] (by decide +kernel) (by decide +kernel)
set_option maxRecDepth 20000 in
theorem gX5_pupil_X5_bandOf : GoodIn wsX5_pupil (va_wsS RX5 110 yX5_bandOf wsX5_bandOf) := goodIn_app (goodIn_of _ (by decide +kernel)) ggX5_pupil_X5_bandOf
set_option maxRecDepth 20000 in
theorem ggX5_pupil_X2_init : GoodIn wsX5_pupil wsX2_init := goodIn_r _ [26, 27, 28, 29, 30, 31, 32, 93, 94, 95] (by decide +kernel) (by decide +kernel)
set_option maxRecDepth 20000 in
theorem gX5_pupil_X2_init : GoodIn wsX5_pupil (wsX2_init) := ggX5_pupil_X2_init
set_option maxRecDepth 20000 in
theorem ggX5_pupil_Jx4a65c_add_9ea2d : GoodIn wsX5_pupil wsJx4a65c_add_9ea2d := goodIn_r _ [36, 37, 38, 39, 20, 40, 41, 42, 18, 43, 44, 45, 46, 47, 48, 49, 50, 51, 52, 53, 54, 55, 56, 57, 58, 59, 60, 61, 62, 63, 64, 65, 66, 67, 68, 69, 70, 71, 72, 73, 74, 75, 76, 77, 78, 79, 80, 81, 82, 83, 84, 85, 86, 96, 97, 98] (by decide +kernel) (by decide +kernel)
set_option maxRecDepth 20000 in
theorem gX5_pupil_Jx4a65c_add_9ea2d : GoodIn wsX5_pupil (wsV RX5 85 RJx4a65c yJx4a65c_add_9ea2d wsJx4a65c_add_9ea2d) := goodIn_app (goodIn_of _ (by decide +kernel)) ggX5_pupil_Jx4a65c_add_9ea2d
theorem dX5_pupil_0 : decode cX5_pupil 0 = .ok (.iload_n 1, 1) := by decide +kernel
theorem dX5_pupil_1 : decode cX5_pupil 1 = .ok (.invokestatic 101, 3) := by decide +kernel
theorem dX5_pupil_4 : decode cX5_pupil 4 = .ok (.iload_n 2, 1) := by decide +kernel
theorem dX5_pupil_5 : decode cX5_pupil 5 = .ok (.iconst 5, 1) := by decide +kernel
theorem dX5_pupil_6 : decode cX5_pupil 6 = .ok (.if_icmp .lt 9, 3) := by decide +kernel
theorem dX5_pupil_9 : decode cX5_pupil 9 = .ok (.iload_n 2, 1) := by decide +kernel
theorem dX5_pupil_10 : decode cX5_pupil 10 = .ok (.bipush 16, 2) := by decide +kernel
theorem dX5_pupil_12 : decode cX5_pupil 12 = .ok (.if_icmp .le 13, 3) := by decide +kernel
theorem dX5_pupil_15 : decode cX5_pupil 15 = .ok (.new 44, 3) := by decide +kernel
theorem dX5_pupil_18 : decode cX5_pupil 18 = .ok (.dup, 1) := by decide +kernel
theorem dX5_pupil_19 : decode cX5_pupil 19 = .ok (.ldc 104, 2) := by decide +kernel
theorem dX5_pupil_21 : decode cX5_pupil 21 = .ok (.invokespecial 48, 3) := by decide +kernel
theorem dX5_pupil_24 : decode cX5_pupil 24 = .ok (.athrow, 1) := by decide +kernel
theorem dX5_pupil_25 : decode cX5_pupil 25 = .ok (.aload_n 0, 1) := by decide +kernel
theorem dX5_pupil_26 : decode cX5_pupil 26 = .ok (.getfield 30, 3) := by decide +kernel
theorem dX5_pupil_29 : decode cX5_pupil 29 = .ok (.invokevirtual 78, 3) := by decide +kernel
theorem dX5_pupil_32 : decode cX5_pupil 32 = .ok (.bipush 20, 2) := by decide +kernel
theorem dX5_pupil_34 : decode cX5_pupil 34 = .ok (.if_icmp .lt 13, 3) := by decide +kernel
theorem dX5_pupil_37 : decode cX5_pupil 37 = .ok (.new 55, 3) := by decide +kernel
theorem dX5_pupil_40 : decode cX5_pupil 40 = .ok (.dup, 1) := by decide +kernel
theorem dX5_pupil_41 : decode cX5_pupil 41 = .ok (.ldc 106, 2) := by decide +kernel
theorem dX5_pupil_43 : decode cX5_pupil 43 = .ok (.invokespecial 59, 3) := by decide +kernel
theorem dX5_pupil_46 : decode cX5_pupil 46 = .ok (.athrow, 1) := by decide +kernel
theorem dX5_pupil_47 : decode cX5_pupil 47 = .ok (.aload_n 0, 1) := by decide +kernel
theorem dX5_pupil_48 : decode cX5_pupil 48 = .ok (.getfield 30, 3) := by decide +kernel
theorem dX5_pupil_51 : decode cX5_pupil 51 = .ok (.new 108, 3) := by decide +kernel
theorem dX5_pupil_54 : decode cX5_pupil 54 = .ok (.dup, 1) := by decide +kernel
theorem dX5_pupil_55 : decode cX5_pupil 55 = .ok (.iload_n 1, 1) := by decide +kernel
theorem dX5_pupil_56 : decode cX5_pupil 56 = .ok (.iload_n 2, 1) := by decide +kernel
theorem dX5_pupil_57 : decode cX5_pupil 57 = .ok (.invokestatic 110, 3) := by decide +kernel
theorem dX5_pupil_60 : decode cX5_pupil 60 = .ok (.iload_n 3, 1) := by decide +kernel
theorem dX5_pupil_61 : decode cX5_pupil 61 = .ok (.invokespecial 113, 3) := by decide +kernel
theorem dX5_pupil_64 : decode cX5_pupil 64 = .ok (.invokevirtual 85, 3) := by decide +kernel
theorem dX5_pupil_67 : decode cX5_pupil 67 = .ok (.pop, 1) := by decide +kernel
theorem dX5_pupil_68 : decode cX5_pupil 68 = .ok (.aload_n 0, 1) := by decide +kernel
theorem dX5_pupil_69 : decode cX5_pupil 69 = .ok (.getfield 30, 3) := by decide +kernel
theorem dX5_pupil_72 : decode cX5_pupil 72 = .ok (.invokevirtual 78, 3) := by decide +kernel
theorem dX5_pupil_75 : decode cX5_pupil 75 = .ok (.iconst 1, 1) := by decide +kernel
theorem dX5_pupil_76 : decode cX5_pupil 76 = .ok (.isub, 1) := by decide +kernel
theorem dX5_pupil_77 : decode cX5_pupil 77 = .ok (.ireturn, 1) := by decide +kernel
set_option maxRecDepth 20000 in
theorem ggX5_print_X5_checkBand : GoodIn wsX5_print wsX5_checkBand := goodIn_ca (goodIn_r _ [7, 8, 9] (by decide +kernel) (by decide +kernel)) (goodIn_sub (fun _ h => List.mem_cons_of_mem _ (List.mem_append_right _ h)) (by decide +kernel))
set_option maxRecDepth 20000 in
theorem gX5_print_X5_checkBand : GoodIn wsX5_print (va_wsS RX5 116 yX5_checkBand wsX5_checkBand) := goodIn_app (goodIn_of _ (by decide +kernel)) ggX5_print_X5_checkBand
set_option maxRecDepth 20000 in
theorem ggX5_print_X1_add : GoodIn wsX5_print wsX1_add := goodIn_r _ [14, 15, 16, 27, 28] (by decide +kernel) (by decide +kernel)
set_option maxRecDepth 20000 in
theorem gX5_print_X1_add : GoodIn wsX5_print (wsV RX5 121 RX1 yX1_add wsX1_add) := goodIn_app (goodIn_of _ (by decide +kernel)) ggX5_print_X1_add
set_option maxRecDepth 20000 in
theorem ggX5_print_X1_countOf : GoodIn wsX5_print wsX1_countOf := goodIn_r _ [20, 15, 16, 27, 28] (by decide +kernel) (by decide +kernel)
set_option maxRecDepth 20000 in
theorem gX5_print_X1_countOf : GoodIn wsX5_print (wsV RX5 124 RX1 yX1_countOf wsX1_countOf) := goodIn_app (goodIn_of _ (by decide +kernel)) ggX5_print_X1_countOf
theorem dX5_print_0 : decode cX5_print 0 = .ok (.iload_n 1, 1) := by decide +kernel
theorem dX5_print_1 : decode cX5_print 1 = .ok (.invokestatic 116, 3) := by decide +kernel
theorem dX5_print_4 : decode cX5_print 4 = .ok (.iload_n 3, 1) := by decide +kernel
theorem dX5_print_5 : decode cX5_print 5 = .ok (.iconst 1, 1) := by decide +kernel
theorem dX5_print_6 : decode cX5_print 6 = .ok (.if_icmp .lt 9, 3) := by decide +kernel
theorem dX5_print_9 : decode cX5_print 9 = .ok (.iload_n 3, 1) := by decide +kernel
theorem dX5_print_10 : decode cX5_print 10 = .ok (.bipush 50, 2) := by decide +kernel
theorem dX5_print_12 : decode cX5_print 12 = .ok (.if_icmp .le 13, 3) := by decide +kernel
theorem dX5_print_15 : decode cX5_print 15 = .ok (.new 44, 3) := by decide +kernel
theorem dX5_print_18 : decode cX5_print 18 = .ok (.dup, 1) := by decide +kernel
theorem dX5_print_19 : decode cX5_print 19 = .ok (.ldc 119, 2) := by decide +kernel
theorem dX5_print_21 : decode cX5_print 21 = .ok (.invokespecial 48, 3) := by decide +kernel
theorem dX5_print_24 : decode cX5_print 24 = .ok (.athrow, 1) := by decide +kernel
theorem dX5_print_25 : decode cX5_print 25 = .ok (.aload_n 0, 1) := by decide +kernel
theorem dX5_print_26 : decode cX5_print 26 = .ok (.getfield 19, 3) := by decide +kernel
theorem dX5_print_29 : decode cX5_print 29 = .ok (.iload_n 1, 1) := by decide +kernel
theorem dX5_print_30 : decode cX5_print 30 = .ok (.iload_n 2, 1) := by decide +kernel
theorem dX5_print_31 : decode cX5_print 31 = .ok (.iload_n 3, 1) := by decide +kernel
theorem dX5_print_32 : decode cX5_print 32 = .ok (.invokevirtual 121, 3) := by decide +kernel
theorem dX5_print_35 : decode cX5_print 35 = .ok (.aload_n 0, 1) := by decide +kernel
theorem dX5_print_36 : decode cX5_print 36 = .ok (.getfield 19, 3) := by decide +kernel
theorem dX5_print_39 : decode cX5_print 39 = .ok (.iload_n 1, 1) := by decide +kernel
theorem dX5_print_40 : decode cX5_print 40 = .ok (.iload_n 2, 1) := by decide +kernel
theorem dX5_print_41 : decode cX5_print 41 = .ok (.invokevirtual 124, 3) := by decide +kernel
theorem dX5_print_44 : decode cX5_print 44 = .ok (.ireturn, 1) := by decide +kernel
set_option maxRecDepth 20000 in
theorem ggX5_sheets_X5_checkBand : GoodIn wsX5_sheets wsX5_checkBand := goodIn_ca (goodIn_r _ [5, 6, 7] (by decide +kernel) (by decide +kernel)) (goodIn_sub (fun _ h => List.mem_cons_of_mem _ (List.mem_append_right _ h)) (by decide +kernel))
set_option maxRecDepth 20000 in
theorem gX5_sheets_X5_checkBand : GoodIn wsX5_sheets (va_wsS RX5 116 yX5_checkBand wsX5_checkBand) := goodIn_app (goodIn_of _ (by decide +kernel)) ggX5_sheets_X5_checkBand
set_option maxRecDepth 20000 in
theorem ggX5_sheets_X1_countOf : GoodIn wsX5_sheets wsX1_countOf := goodIn_r _ [12, 13, 14, 21, 22] (by decide +kernel) (by decide +kernel)
set_option maxRecDepth 20000 in
theorem gX5_sheets_X1_countOf : GoodIn wsX5_sheets (wsV RX5 124 RX1 yX1_countOf wsX1_countOf) := goodIn_app (goodIn_of _ (by decide +kernel)) ggX5_sheets_X1_countOf
theorem dX5_sheets_0 : decode cX5_sheets 0 = .ok (.iload_n 1, 1) := by decide +kernel
theorem dX5_sheets_1 : decode cX5_sheets 1 = .ok (.invokestatic 116, 3) := by decide +kernel
theorem dX5_sheets_4 : decode cX5_sheets 4 = .ok (.aload_n 0, 1) := by decide +kernel
theorem dX5_sheets_5 : decode cX5_sheets 5 = .ok (.getfield 19, 3) := by decide +kernel
theorem dX5_sheets_8 : decode cX5_sheets 8 = .ok (.iload_n 1, 1) := by decide +kernel
theorem dX5_sheets_9 : decode cX5_sheets 9 = .ok (.iload_n 2, 1) := by decide +kernel
theorem dX5_sheets_10 : decode cX5_sheets 10 = .ok (.invokevirtual 124, 3) := by decide +kernel
theorem dX5_sheets_13 : decode cX5_sheets 13 = .ok (.ireturn, 1) := by decide +kernel
set_option maxRecDepth 20000 in
theorem ggX5_write_X5_pupilNumbered : GoodIn wsX5_write wsX5_pupilNumbered := goodIn_ca (goodIn_r _ [16, 17, 18, 19, 20, 21, 22, 23, 24, 25, 26, 27, 28, 29, 30, 31, 32, 33, 34, 35, 36, 37, 38, 39, 40, 41, 42, 43, 184, 185, 186, 187, 188, 189, 200, 201, 202] (by decide +kernel) (by decide +kernel)) (goodIn_sub (fun _ h => List.mem_cons_of_mem _ (List.mem_append_right _ h)) (by decide +kernel))
set_option maxRecDepth 20000 in
theorem gX5_write_X5_pupilNumbered : GoodIn wsX5_write (wsV RX5 128 RX5 yX5_pupilNumbered wsX5_pupilNumbered) := goodIn_app (goodIn_of _ (by decide +kernel)) ggX5_write_X5_pupilNumbered
set_option maxRecDepth 20000 in
theorem ggX5_write_X5_letterNumbered : GoodIn wsX5_write wsX5_letterNumbered := goodIn_ca (goodIn_r _ [47, 17, 18, 48, 49, 21, 22, 23, 24, 25, 26, 27, 28, 29, 30, 31, 32, 33, 34, 35, 36, 37, 38, 39, 40, 41, 42, 43, 184, 185, 186, 187, 188, 189, 200, 201, 202] (by decide +kernel) (by decide +kernel)) (goodIn_sub (fun _ h => List.mem_cons_of_mem _ (List.mem_append_right _ h)) (by decide +kernel))
set_option maxRecDepth 20000 in
theorem gX5_write_X5_letterNumbered : GoodIn wsX5_write (wsV RX5 88 RX5 yX5_letterNumbered wsX5_letterNumbered) := goodIn_app (goodIn_of _ (by decide +kernel)) ggX5_write_X5_letterNumbered
set_option maxRecDepth 20000 in
theorem ggX5_write_Jx4a65c_size_8abf5 : GoodIn wsX5_write wsJx4a65c_size_8abf5 := goodIn_r _ [25, 26, 200, 201, 202] (by decide +kernel) (by decide +kernel)
set_option maxRecDepth 20000 in
theorem gX5_write_Jx4a65c_size_8abf5 : GoodIn wsX5_write (wsV RX5 78 RJx4a65c yJx4a65c_size_8abf5 wsJx4a65c_size_8abf5) := goodIn_app (goodIn_of _ (by decide +kernel)) ggX5_write_Jx4a65c_size_8abf5
set_option maxRecDepth 20000 in
theorem ggX5_write_X1_bandFor : GoodIn wsX5_write wsX1_bandFor := goodIn_r _ [54, 55, 56, 57, 53, 58, 59, 60, 203, 204] (by decide +kernel) (by decide +kernel)
set_option maxRecDepth 20000 in
theorem gX5_write_X1_bandFor : GoodIn wsX5_write (wsV RX5 142 RX1 yX1_bandFor wsX1_bandFor) := goodIn_app (goodIn_of _ (by decide +kernel)) ggX5_write_X1_bandFor
set_option maxRecDepth 20000 in
theorem ggX5_write_X1_add : GoodIn wsX5_write wsX1_add := goodIn_r _ [64, 59, 60, 203, 204] (by decide +kernel) (by decide +kernel)
set_option maxRecDepth 20000 in
theorem gX5_write_X1_add : GoodIn wsX5_write (wsV RX5 121 RX1 yX1_add wsX1_add) := goodIn_app (goodIn_of _ (by decide +kernel)) ggX5_write_X1_add
set_option maxRecDepth 20000 in
theorem ggX5_write_X3_init : GoodIn wsX5_write wsX3_init := goodIn_r _ [67, 68, 69, 70, 71, 72, 73, 74, 75, 76, 77, 78, 79, 80, 81, 82, 83, 84, 85, 86, 87, 88, 193, 194, 195, 196, 197, 198, 199, 205, 206, 207] (by decide +kernel) (by decide +kernel)
set_option maxRecDepth 20000 in
theorem gX5_write_X3_init : GoodIn wsX5_write (wsX3_init) := ggX5_write_X3_init
set_option maxRecDepth 20000 in
theorem ggX5_write_X3_compare : GoodIn wsX5_write wsX3_compare := goodIn_r _ [92, 78, 81, 93, 94, 95, 96, 97, 98, 99, 100, 101, 102, 103, 104, 105, 106, 107, 108, 109, 110, 111, 112, 113, 114, 115, 116, 9, 117, 80, 118, 119, 120, 121, 77, 122, 123, 124, 125, 193, 194, 195, 196, 197, 198, 199, 208, 209] (by decide +kernel) (by decide +kernel)
set_option maxRecDepth 20000 in
theorem gX5_write_X3_compare : GoodIn wsX5_write (wsV RX5 154 RX3 yX3_compare wsX3_compare) := goodIn_app (goodIn_of _ (by decide +kernel)) ggX5_write_X3_compare
set_option maxRecDepth 20000 in
theorem ggX5_write_X3_addWrongRuling : GoodIn wsX5_write wsX3_addWrongRuling := goodIn_r _ [129, 78, 193, 194, 195, 196, 197, 198, 199] (by decide +kernel) (by decide +kernel)
set_option maxRecDepth 20000 in
theorem gX5_write_X3_addWrongRuling : GoodIn wsX5_write (wsV RX5 158 RX3 yX3_addWrongRuling wsX3_addWrongRuling) := goodIn_app (goodIn_of _ (by decide +kernel)) ggX5_write_X3_addWrongRuling
set_option maxRecDepth 20000 in
theorem ggX5_write_Jx4a65c_add_9ea2d : GoodIn wsX5_write wsJx4a65c_add_9ea2d := goodIn_r _ [133, 134, 135, 43, 26, 136, 137, 138, 24, 139, 140, 141, 142, 143, 144, 145, 146, 147, 148, 149, 123, 124, 125, 150, 151, 152, 153, 154, 155, 156, 157, 158, 159, 160, 161, 162, 163, 164, 165, 166, 167, 168, 169, 170, 171, 172, 173, 174, 175, 176, 177, 178, 179, 200, 201, 202] (by decide +kernel) (by decide +kernel)
set_option maxRecDepth 20000 in
theorem gX5_write_Jx4a65c_add_9ea2d : GoodIn wsX5_write (wsV RX5 85 RJx4a65c yJx4a65c_add_9ea2d wsJx4a65c_add_9ea2d) := goodIn_app (goodIn_of _ (by decide +kernel)) ggX5_write_Jx4a65c_add_9ea2d
set_option maxRecDepth 20000 in
theorem ggX5_write_X4_clear : GoodIn wsX5_write wsX4_clear := goodIn_r _ [183, 98, 208, 209] (by decide +kernel) (by decide +kernel)
set_option maxRecDepth 20000 in
theorem gX5_write_X4_clear : GoodIn wsX5_write (wsV RX5 67 RX4 yX4_clear wsX4_clear) := goodIn_app (goodIn_of _ (by decide +kernel)) ggX5_write_X4_clear
theorem dX5_write_0 : decode cX5_write 0 = .ok (.aload_n 0, 1) := by decide +kernel
theorem dX5_write_1 : decode cX5_write 1 = .ok (.iload_n 1, 1) := by decide +kernel
theorem dX5_write_2 : decode cX5_write 2 = .ok (.invokevirtual 128, 3) := by decide +kernel
theorem dX5_write_5 : decode cX5_write 5 = .ok (.astore_n 3, 1) := by decide +kernel
theorem dX5_write_6 : decode cX5_write 6 = .ok (.aload_n 0, 1) := by decide +kernel
theorem dX5_write_7 : decode cX5_write 7 = .ok (.iload_n 2, 1) := by decide +kernel
theorem dX5_write_8 : decode cX5_write 8 = .ok (.invokevirtual 88, 3) := by decide +kernel
theorem dX5_write_11 : decode cX5_write 11 = .ok (.astore 4, 2) := by decide +kernel
theorem dX5_write_13 : decode cX5_write 13 = .ok (.aload_n 0, 1) := by decide +kernel
theorem dX5_write_14 : decode cX5_write 14 = .ok (.getfield 33, 3) := by decide +kernel
theorem dX5_write_17 : decode cX5_write 17 = .ok (.invokevirtual 78, 3) := by decide +kernel
theorem dX5_write_20 : decode cX5_write 20 = .ok (.bipush 40, 2) := by decide +kernel
theorem dX5_write_22 : decode cX5_write 22 = .ok (.if_icmp .lt 13, 3) := by decide +kernel
theorem dX5_write_25 : decode cX5_write 25 = .ok (.new 55, 3) := by decide +kernel
theorem dX5_write_28 : decode cX5_write 28 = .ok (.dup, 1) := by decide +kernel
theorem dX5_write_29 : decode cX5_write 29 = .ok (.ldc 132, 2) := by decide +kernel
theorem dX5_write_31 : decode cX5_write 31 = .ok (.invokespecial 59, 3) := by decide +kernel
theorem dX5_write_34 : decode cX5_write 34 = .ok (.athrow, 1) := by decide +kernel
theorem dX5_write_35 : decode cX5_write 35 = .ok (.aload_n 0, 1) := by decide +kernel
theorem dX5_write_36 : decode cX5_write 36 = .ok (.getfield 19, 3) := by decide +kernel
theorem dX5_write_39 : decode cX5_write 39 = .ok (.aload_n 3, 1) := by decide +kernel
theorem dX5_write_40 : decode cX5_write 40 = .ok (.getfield 134, 3) := by decide +kernel
theorem dX5_write_43 : decode cX5_write 43 = .ok (.aload_n 3, 1) := by decide +kernel
theorem dX5_write_44 : decode cX5_write 44 = .ok (.getfield 138, 3) := by decide +kernel
theorem dX5_write_47 : decode cX5_write 47 = .ok (.invokevirtual 142, 3) := by decide +kernel
theorem dX5_write_50 : decode cX5_write 50 = .ok (.istore 5, 2) := by decide +kernel
theorem dX5_write_52 : decode cX5_write 52 = .ok (.iload 5, 2) := by decide +kernel
theorem dX5_write_54 : decode cX5_write 54 = .ok (.iconst (-1), 1) := by decide +kernel
theorem dX5_write_55 : decode cX5_write 55 = .ok (.if_icmp .ne 13, 3) := by decide +kernel
theorem dX5_write_58 : decode cX5_write 58 = .ok (.new 55, 3) := by decide +kernel
theorem dX5_write_61 : decode cX5_write 61 = .ok (.dup, 1) := by decide +kernel
theorem dX5_write_62 : decode cX5_write 62 = .ok (.ldc 145, 2) := by decide +kernel
theorem dX5_write_64 : decode cX5_write 64 = .ok (.invokespecial 59, 3) := by decide +kernel
theorem dX5_write_67 : decode cX5_write 67 = .ok (.athrow, 1) := by decide +kernel
theorem dX5_write_68 : decode cX5_write 68 = .ok (.aload_n 0, 1) := by decide +kernel
theorem dX5_write_69 : decode cX5_write 69 = .ok (.getfield 19, 3) := by decide +kernel
theorem dX5_write_72 : decode cX5_write 72 = .ok (.iload 5, 2) := by decide +kernel
theorem dX5_write_74 : decode cX5_write 74 = .ok (.aload_n 3, 1) := by decide +kernel
theorem dX5_write_75 : decode cX5_write 75 = .ok (.getfield 138, 3) := by decide +kernel
theorem dX5_write_78 : decode cX5_write 78 = .ok (.iconst (-1), 1) := by decide +kernel
theorem dX5_write_79 : decode cX5_write 79 = .ok (.invokevirtual 121, 3) := by decide +kernel
theorem dX5_write_82 : decode cX5_write 82 = .ok (.new 147, 3) := by decide +kernel
theorem dX5_write_85 : decode cX5_write 85 = .ok (.dup, 1) := by decide +kernel
theorem dX5_write_86 : decode cX5_write 86 = .ok (.aload_n 3, 1) := by decide +kernel
theorem dX5_write_87 : decode cX5_write 87 = .ok (.getfield 149, 3) := by decide +kernel
theorem dX5_write_90 : decode cX5_write 90 = .ok (.invokespecial 152, 3) := by decide +kernel
theorem dX5_write_93 : decode cX5_write 93 = .ok (.astore 6, 2) := by decide +kernel
theorem dX5_write_95 : decode cX5_write 95 = .ok (.aload 6, 2) := by decide +kernel
theorem dX5_write_97 : decode cX5_write 97 = .ok (.aload 4, 2) := by decide +kernel
theorem dX5_write_99 : decode cX5_write 99 = .ok (.aload_n 0, 1) := by decide +kernel
theorem dX5_write_100 : decode cX5_write 100 = .ok (.getfield 10, 3) := by decide +kernel
theorem dX5_write_103 : decode cX5_write 103 = .ok (.invokevirtual 154, 3) := by decide +kernel
theorem dX5_write_106 : decode cX5_write 106 = .ok (.iload 5, 2) := by decide +kernel
theorem dX5_write_108 : decode cX5_write 108 = .ok (.aload_n 3, 1) := by decide +kernel
theorem dX5_write_109 : decode cX5_write 109 = .ok (.getfield 134, 3) := by decide +kernel
theorem dX5_write_112 : decode cX5_write 112 = .ok (.if_icmp .eq 8, 3) := by decide +kernel
theorem dX5_write_115 : decode cX5_write 115 = .ok (.aload 6, 2) := by decide +kernel
theorem dX5_write_117 : decode cX5_write 117 = .ok (.invokevirtual 158, 3) := by decide +kernel
theorem dX5_write_120 : decode cX5_write 120 = .ok (.aload_n 0, 1) := by decide +kernel
theorem dX5_write_121 : decode cX5_write 121 = .ok (.getfield 33, 3) := by decide +kernel
theorem dX5_write_124 : decode cX5_write 124 = .ok (.aload 6, 2) := by decide +kernel
theorem dX5_write_126 : decode cX5_write 126 = .ok (.invokevirtual 85, 3) := by decide +kernel
theorem dX5_write_129 : decode cX5_write 129 = .ok (.pop, 1) := by decide +kernel
theorem dX5_write_130 : decode cX5_write 130 = .ok (.aload_n 0, 1) := by decide +kernel
theorem dX5_write_131 : decode cX5_write 131 = .ok (.getfield 10, 3) := by decide +kernel
theorem dX5_write_134 : decode cX5_write 134 = .ok (.invokevirtual 67, 3) := by decide +kernel
theorem dX5_write_137 : decode cX5_write 137 = .ok (.aload_n 0, 1) := by decide +kernel
theorem dX5_write_138 : decode cX5_write 138 = .ok (.getfield 33, 3) := by decide +kernel
theorem dX5_write_141 : decode cX5_write 141 = .ok (.invokevirtual 78, 3) := by decide +kernel
theorem dX5_write_144 : decode cX5_write 144 = .ok (.iconst 1, 1) := by decide +kernel
theorem dX5_write_145 : decode cX5_write 145 = .ok (.isub, 1) := by decide +kernel
theorem dX5_write_146 : decode cX5_write 146 = .ok (.ireturn, 1) := by decide +kernel
set_option maxRecDepth 20000 in
theorem ggX5_slips_X5_scriptNumbered : GoodIn wsX5_slips wsX5_scriptNumbered := goodIn_ca (goodIn_r _ [7, 8, 9, 10, 11, 12, 13, 14, 15, 16, 17, 18, 19, 20, 21, 22, 23, 24, 25, 26, 27, 28, 29, 30, 31, 32, 33, 34, 45, 46, 47, 48, 49, 50, 51, 52, 53] (by decide +kernel) (by decide +kernel)) (goodIn_sub (fun _ h => List.mem_cons_of_mem _ (List.mem_append_right _ h)) (by decide +kernel))
set_option maxRecDepth 20000 in
theorem gX5_slips_X5_scriptNumbered : GoodIn wsX5_slips (wsV RX5 161 RX5 yX5_scriptNumbered wsX5_scriptNumbered) := goodIn_app (goodIn_of _ (by decide +kernel)) ggX5_slips_X5_scriptNumbered
set_option maxRecDepth 20000 in
theorem ggX5_slips_X3_allSlips : GoodIn wsX5_slips wsX3_allSlips := goodIn_r _ [39, 40, 54, 55, 56, 57, 58, 59, 60] (by decide +kernel) (by decide +kernel)
set_option maxRecDepth 20000 in
theorem gX5_slips_X3_allSlips : GoodIn wsX5_slips (wsV RX5 167 RX3 yX3_allSlips wsX3_allSlips) := goodIn_app (goodIn_of _ (by decide +kernel)) ggX5_slips_X3_allSlips
set_option maxRecDepth 20000 in
theorem ggX5_slips_X3_slipsOf : GoodIn wsX5_slips wsX3_slipsOf := goodIn_r _ [44, 40, 54, 55, 56, 57, 58, 59, 60] (by decide +kernel) (by decide +kernel)
set_option maxRecDepth 20000 in
theorem gX5_slips_X3_slipsOf : GoodIn wsX5_slips (wsV RX5 170 RX3 yX3_slipsOf wsX3_slipsOf) := goodIn_app (goodIn_of _ (by decide +kernel)) ggX5_slips_X3_slipsOf
theorem dX5_slips_0 : decode cX5_slips 0 = .ok (.aload_n 0, 1) := by decide +kernel
theorem dX5_slips_1 : decode cX5_slips 1 = .ok (.iload_n 1, 1) := by decide +kernel
theorem dX5_slips_2 : decode cX5_slips 2 = .ok (.invokevirtual 161, 3) := by decide +kernel
theorem dX5_slips_5 : decode cX5_slips 5 = .ok (.astore_n 3, 1) := by decide +kernel
theorem dX5_slips_6 : decode cX5_slips 6 = .ok (.iload_n 2, 1) := by decide +kernel
theorem dX5_slips_7 : decode cX5_slips 7 = .ok (.ifCond .lt 8, 3) := by decide +kernel
theorem dX5_slips_10 : decode cX5_slips 10 = .ok (.iload_n 2, 1) := by decide +kernel
theorem dX5_slips_11 : decode cX5_slips 11 = .ok (.iconst 5, 1) := by decide +kernel
theorem dX5_slips_12 : decode cX5_slips 12 = .ok (.if_icmp .le 13, 3) := by decide +kernel
theorem dX5_slips_15 : decode cX5_slips 15 = .ok (.new 44, 3) := by decide +kernel
theorem dX5_slips_18 : decode cX5_slips 18 = .ok (.dup, 1) := by decide +kernel
theorem dX5_slips_19 : decode cX5_slips 19 = .ok (.ldc 165, 2) := by decide +kernel
theorem dX5_slips_21 : decode cX5_slips 21 = .ok (.invokespecial 48, 3) := by decide +kernel
theorem dX5_slips_24 : decode cX5_slips 24 = .ok (.athrow, 1) := by decide +kernel
theorem dX5_slips_25 : decode cX5_slips 25 = .ok (.iload_n 2, 1) := by decide +kernel
theorem dX5_slips_26 : decode cX5_slips 26 = .ok (.iconst 5, 1) := by decide +kernel
theorem dX5_slips_27 : decode cX5_slips 27 = .ok (.if_icmp .ne 10, 3) := by decide +kernel
theorem dX5_slips_30 : decode cX5_slips 30 = .ok (.aload_n 3, 1) := by decide +kernel
theorem dX5_slips_31 : decode cX5_slips 31 = .ok (.invokevirtual 167, 3) := by decide +kernel
theorem dX5_slips_34 : decode cX5_slips 34 = .ok (.goto 8, 3) := by decide +kernel
theorem dX5_slips_37 : decode cX5_slips 37 = .ok (.aload_n 3, 1) := by decide +kernel
theorem dX5_slips_38 : decode cX5_slips 38 = .ok (.iload_n 2, 1) := by decide +kernel
theorem dX5_slips_39 : decode cX5_slips 39 = .ok (.invokevirtual 170, 3) := by decide +kernel
theorem dX5_slips_42 : decode cX5_slips 42 = .ok (.ireturn, 1) := by decide +kernel
set_option maxRecDepth 20000 in
theorem ggX5_orderAnew_X5_scriptNumbered : GoodIn wsX5_orderAnew wsX5_scriptNumbered := goodIn_ca (goodIn_r _ [5, 6, 7, 8, 9, 10, 11, 12, 13, 14, 15, 16, 17, 18, 19, 20, 21, 22, 23, 24, 25, 26, 27, 28, 29, 30, 31, 32, 55, 56, 57, 58, 59, 60, 61, 62, 63] (by decide +kernel) (by decide +kernel)) (goodIn_sub (fun _ h => List.mem_cons_of_mem _ (List.mem_append_right _ h)) (by decide +kernel))
set_option maxRecDepth 20000 in
theorem gX5_orderAnew_X5_scriptNumbered : GoodIn wsX5_orderAnew (wsV RX5 161 RX5 yX5_scriptNumbered wsX5_scriptNumbered) := goodIn_app (goodIn_of _ (by decide +kernel)) ggX5_orderAnew_X5_scriptNumbered
set_option maxRecDepth 20000 in
theorem ggX5_orderAnew_X3_fewestLeftOut : GoodIn wsX5_orderAnew wsX3_fewestLeftOut := goodIn_r _ [37, 38, 39, 40, 41, 42, 43, 44, 45, 36, 46, 47, 48, 49, 50, 51, 52, 53, 54, 64, 65, 66, 67, 68, 69, 70] (by decide +kernel) (by decide +kernel)
set_option maxRecDepth 20000 in
theorem gX5_orderAnew_X3_fewestLeftOut : GoodIn wsX5_orderAnew (wsV RX5 173 RX3 yX3_fewestLeftOut wsX3_fewestLeftOut) := goodIn_app (goodIn_of _ (by decide +kernel)) ggX5_orderAnew_X3_fewestLeftOut
theorem dX5_orderAnew_0 : decode cX5_orderAnew 0 = .ok (.aload_n 0, 1) := by decide +kernel
theorem dX5_orderAnew_1 : decode cX5_orderAnew 1 = .ok (.iload_n 1, 1) := by decide +kernel
theorem dX5_orderAnew_2 : decode cX5_orderAnew 2 = .ok (.invokevirtual 161, 3) := by decide +kernel
theorem dX5_orderAnew_5 : decode cX5_orderAnew 5 = .ok (.invokevirtual 173, 3) := by decide +kernel
theorem dX5_orderAnew_8 : decode cX5_orderAnew 8 = .ok (.ireturn, 1) := by decide +kernel
set_option maxRecDepth 20000 in
theorem ggX5_mark_X5_checkExaminer : GoodIn wsX5_mark wsX5_checkExaminer := goodIn_ca (goodIn_r _ [10, 11, 12] (by decide +kernel) (by decide +kernel)) (goodIn_sub (fun _ h => List.mem_cons_of_mem _ (List.mem_append_right _ h)) (by decide +kernel))
set_option maxRecDepth 20000 in
theorem gX5_mark_X5_checkExaminer : GoodIn wsX5_mark (va_wsS RX5 176 yX5_checkExaminer wsX5_checkExaminer) := goodIn_app (goodIn_of _ (by decide +kernel)) ggX5_mark_X5_checkExaminer
set_option maxRecDepth 20000 in
theorem ggX5_mark_X5_scriptNumbered : GoodIn wsX5_mark wsX5_scriptNumbered := goodIn_ca (goodIn_r _ [16, 11, 12, 17, 18, 19, 20, 21, 22, 23, 24, 25, 26, 27, 28, 29, 30, 31, 32, 33, 34, 35, 36, 37, 38, 39, 40, 41, 73, 74, 75, 76, 77, 78, 79, 80, 81] (by decide +kernel) (by decide +kernel)) (goodIn_sub (fun _ h => List.mem_cons_of_mem _ (List.mem_append_right _ h)) (by decide +kernel))
set_option maxRecDepth 20000 in
theorem gX5_mark_X5_scriptNumbered : GoodIn wsX5_mark (wsV RX5 161 RX5 yX5_scriptNumbered wsX5_scriptNumbered) := goodIn_app (goodIn_of _ (by decide +kernel)) ggX5_mark_X5_scriptNumbered
set_option maxRecDepth 20000 in
theorem ggX5_mark_X0_hasOneOf : GoodIn wsX5_mark wsX0_hasOneOf := goodIn_r _ [46, 47, 48, 82, 83, 84] (by decide +kernel) (by decide +kernel)
set_option maxRecDepth 20000 in
theorem gX5_mark_X0_hasOneOf : GoodIn wsX5_mark (wsV RX5 187 RX0 yX0_hasOneOf wsX0_hasOneOf) := goodIn_app (goodIn_of _ (by decide +kernel)) ggX5_mark_X0_hasOneOf
set_option maxRecDepth 20000 in
theorem ggX5_mark_X0_lacking : GoodIn wsX5_mark wsX0_lacking := goodIn_r _ [52, 47, 53, 54, 55, 56, 57, 82, 83, 84] (by decide +kernel) (by decide +kernel)
set_option maxRecDepth 20000 in
theorem gX5_mark_X0_lacking : GoodIn wsX5_mark (wsV RX5 195 RX0 yX0_lacking wsX0_lacking) := goodIn_app (goodIn_of _ (by decide +kernel)) ggX5_mark_X0_lacking
set_option maxRecDepth 20000 in
theorem ggX5_mark_X0_add : GoodIn wsX5_mark wsX0_add := goodIn_r _ [61, 47, 48, 53, 82, 83, 84] (by decide +kernel) (by decide +kernel)
set_option maxRecDepth 20000 in
theorem gX5_mark_X0_add : GoodIn wsX5_mark (wsV RX5 200 RX0 yX0_add wsX0_add) := goodIn_app (goodIn_of _ (by decide +kernel)) ggX5_mark_X0_add
set_option maxRecDepth 20000 in
theorem ggX5_mark_X0_size : GoodIn wsX5_mark wsX0_size := goodIn_r _ [65, 47, 82, 83, 84] (by decide +kernel) (by decide +kernel)
set_option maxRecDepth 20000 in
theorem gX5_mark_X0_size : GoodIn wsX5_mark (wsV RX5 203 RX0 yX0_size wsX0_size) := goodIn_app (goodIn_of _ (by decide +kernel)) ggX5_mark_X0_size
theorem dX5_mark_0 : decode cX5_mark 0 = .ok (.iload_n 1, 1) := by decide +kernel
theorem dX5_mark_1 : decode cX5_mark 1 = .ok (.invokestatic 176, 3) := by decide +kernel
theorem dX5_mark_4 : decode cX5_mark 4 = .ok (.aload_n 0, 1) := by decide +kernel
theorem dX5_mark_5 : decode cX5_mark 5 = .ok (.iload_n 2, 1) := by decide +kernel
theorem dX5_mark_6 : decode cX5_mark 6 = .ok (.invokevirtual 161, 3) := by decide +kernel
theorem dX5_mark_9 : decode cX5_mark 9 = .ok (.getfield 179, 3) := by decide +kernel
theorem dX5_mark_12 : decode cX5_mark 12 = .ok (.astore 4, 2) := by decide +kernel
theorem dX5_mark_14 : decode cX5_mark 14 = .ok (.iload_n 3, 1) := by decide +kernel
theorem dX5_mark_15 : decode cX5_mark 15 = .ok (.ifCond .lt 9, 3) := by decide +kernel
theorem dX5_mark_18 : decode cX5_mark 18 = .ok (.iload_n 3, 1) := by decide +kernel
theorem dX5_mark_19 : decode cX5_mark 19 = .ok (.bipush 20, 2) := by decide +kernel
theorem dX5_mark_21 : decode cX5_mark 21 = .ok (.if_icmp .le 13, 3) := by decide +kernel
theorem dX5_mark_24 : decode cX5_mark 24 = .ok (.new 44, 3) := by decide +kernel
theorem dX5_mark_27 : decode cX5_mark 27 = .ok (.dup, 1) := by decide +kernel
theorem dX5_mark_28 : decode cX5_mark 28 = .ok (.ldc 183, 2) := by decide +kernel
theorem dX5_mark_30 : decode cX5_mark 30 = .ok (.invokespecial 48, 3) := by decide +kernel
theorem dX5_mark_33 : decode cX5_mark 33 = .ok (.athrow, 1) := by decide +kernel
theorem dX5_mark_34 : decode cX5_mark 34 = .ok (.aload_n 0, 1) := by decide +kernel
theorem dX5_mark_35 : decode cX5_mark 35 = .ok (.getfield 36, 3) := by decide +kernel
theorem dX5_mark_38 : decode cX5_mark 38 = .ok (.iload_n 1, 1) := by decide +kernel
theorem dX5_mark_39 : decode cX5_mark 39 = .ok (.baload, 1) := by decide +kernel
theorem dX5_mark_40 : decode cX5_mark 40 = .ok (.ifCond .eq 13, 3) := by decide +kernel
theorem dX5_mark_43 : decode cX5_mark 43 = .ok (.new 55, 3) := by decide +kernel
theorem dX5_mark_46 : decode cX5_mark 46 = .ok (.dup, 1) := by decide +kernel
theorem dX5_mark_47 : decode cX5_mark 47 = .ok (.ldc 185, 2) := by decide +kernel
theorem dX5_mark_49 : decode cX5_mark 49 = .ok (.invokespecial 59, 3) := by decide +kernel
theorem dX5_mark_52 : decode cX5_mark 52 = .ok (.athrow, 1) := by decide +kernel
theorem dX5_mark_53 : decode cX5_mark 53 = .ok (.aload 4, 2) := by decide +kernel
theorem dX5_mark_55 : decode cX5_mark 55 = .ok (.iload_n 1, 1) := by decide +kernel
theorem dX5_mark_56 : decode cX5_mark 56 = .ok (.invokevirtual 187, 3) := by decide +kernel
theorem dX5_mark_59 : decode cX5_mark 59 = .ok (.ifCond .eq 13, 3) := by decide +kernel
theorem dX5_mark_62 : decode cX5_mark 62 = .ok (.new 55, 3) := by decide +kernel
theorem dX5_mark_65 : decode cX5_mark 65 = .ok (.dup, 1) := by decide +kernel
theorem dX5_mark_66 : decode cX5_mark 66 = .ok (.ldc 193, 2) := by decide +kernel
theorem dX5_mark_68 : decode cX5_mark 68 = .ok (.invokespecial 59, 3) := by decide +kernel
theorem dX5_mark_71 : decode cX5_mark 71 = .ok (.athrow, 1) := by decide +kernel
theorem dX5_mark_72 : decode cX5_mark 72 = .ok (.aload 4, 2) := by decide +kernel
theorem dX5_mark_74 : decode cX5_mark 74 = .ok (.invokevirtual 195, 3) := by decide +kernel
theorem dX5_mark_77 : decode cX5_mark 77 = .ok (.ifCond .ne 13, 3) := by decide +kernel
theorem dX5_mark_80 : decode cX5_mark 80 = .ok (.new 55, 3) := by decide +kernel
theorem dX5_mark_83 : decode cX5_mark 83 = .ok (.dup, 1) := by decide +kernel
theorem dX5_mark_84 : decode cX5_mark 84 = .ok (.ldc 198, 2) := by decide +kernel
theorem dX5_mark_86 : decode cX5_mark 86 = .ok (.invokespecial 59, 3) := by decide +kernel
theorem dX5_mark_89 : decode cX5_mark 89 = .ok (.athrow, 1) := by decide +kernel
theorem dX5_mark_90 : decode cX5_mark 90 = .ok (.aload 4, 2) := by decide +kernel
theorem dX5_mark_92 : decode cX5_mark 92 = .ok (.iload_n 1, 1) := by decide +kernel
theorem dX5_mark_93 : decode cX5_mark 93 = .ok (.iload_n 3, 1) := by decide +kernel
theorem dX5_mark_94 : decode cX5_mark 94 = .ok (.invokevirtual 200, 3) := by decide +kernel
theorem dX5_mark_97 : decode cX5_mark 97 = .ok (.aload 4, 2) := by decide +kernel
theorem dX5_mark_99 : decode cX5_mark 99 = .ok (.invokevirtual 203, 3) := by decide +kernel
theorem dX5_mark_102 : decode cX5_mark 102 = .ok (.ireturn, 1) := by decide +kernel
set_option maxRecDepth 20000 in
theorem ggX5_grade_X5_scriptNumbered : GoodIn wsX5_grade wsX5_scriptNumbered := goodIn_ca (goodIn_r _ [6, 7, 8, 9, 10, 11, 12, 13, 14, 15, 16, 17, 18, 19, 20, 21, 22, 23, 24, 25, 26, 27, 28, 29, 30, 31, 32, 33, 62, 63, 64, 65, 66, 67, 68, 69, 70] (by decide +kernel) (by decide +kernel)) (goodIn_sub (fun _ h => List.mem_cons_of_mem _ (List.mem_append_right _ h)) (by decide +kernel))
set_option maxRecDepth 20000 in
theorem gX5_grade_X5_scriptNumbered : GoodIn wsX5_grade (wsV RX5 161 RX5 yX5_scriptNumbered wsX5_scriptNumbered) := goodIn_app (goodIn_of _ (by decide +kernel)) ggX5_grade_X5_scriptNumbered
set_option maxRecDepth 20000 in
theorem ggX5_grade_X0_result : GoodIn wsX5_grade wsX0_result := goodIn_r _ [38, 39, 40, 41, 42, 43, 44, 45, 46, 47, 48, 49, 50, 37, 51, 52, 53, 54, 71, 72, 73] (by decide +kernel) (by decide +kernel)
set_option maxRecDepth 20000 in
theorem gX5_grade_X0_result : GoodIn wsX5_grade (wsV RX5 204 RX0 yX0_result wsX0_result) := goodIn_app (goodIn_of _ (by decide +kernel)) ggX5_grade_X0_result
theorem dX5_grade_0 : decode cX5_grade 0 = .ok (.aload_n 0, 1) := by decide +kernel
theorem dX5_grade_1 : decode cX5_grade 1 = .ok (.iload_n 1, 1) := by decide +kernel
theorem dX5_grade_2 : decode cX5_grade 2 = .ok (.invokevirtual 161, 3) := by decide +kernel
theorem dX5_grade_5 : decode cX5_grade 5 = .ok (.getfield 179, 3) := by decide +kernel
theorem dX5_grade_8 : decode cX5_grade 8 = .ok (.invokevirtual 204, 3) := by decide +kernel
theorem dX5_grade_11 : decode cX5_grade 11 = .ok (.ireturn, 1) := by decide +kernel
set_option maxRecDepth 20000 in
theorem ggX5_lacks_X5_scriptNumbered : GoodIn wsX5_lacks wsX5_scriptNumbered := goodIn_ca (goodIn_r _ [6, 7, 8, 9, 10, 11, 12, 13, 14, 15, 16, 17, 18, 19, 20, 21, 22, 23, 24, 25, 26, 27, 28, 29, 30, 31, 32, 33, 52, 53, 54, 55, 56, 57, 58, 59, 60] (by decide +kernel) (by decide +kernel)) (goodIn_sub (fun _ h => List.mem_cons_of_mem _ (List.mem_append_right _ h)) (by decide +kernel))
set_option maxRecDepth 20000 in
theorem gX5_lacks_X5_scriptNumbered : GoodIn wsX5_lacks (wsV RX5 161 RX5 yX5_scriptNumbered wsX5_scriptNumbered) := goodIn_app (goodIn_of _ (by decide +kernel)) ggX5_lacks_X5_scriptNumbered
set_option maxRecDepth 20000 in
theorem ggX5_lacks_X0_lacking : GoodIn wsX5_lacks wsX0_lacking := goodIn_r _ [38, 39, 40, 41, 42, 43, 44, 61, 62, 63] (by decide +kernel) (by decide +kernel)
set_option maxRecDepth 20000 in
theorem gX5_lacks_X0_lacking : GoodIn wsX5_lacks (wsV RX5 195 RX0 yX0_lacking wsX0_lacking) := goodIn_app (goodIn_of _ (by decide +kernel)) ggX5_lacks_X0_lacking
theorem dX5_lacks_0 : decode cX5_lacks 0 = .ok (.aload_n 0, 1) := by decide +kernel
theorem dX5_lacks_1 : decode cX5_lacks 1 = .ok (.iload_n 1, 1) := by decide +kernel
theorem dX5_lacks_2 : decode cX5_lacks 2 = .ok (.invokevirtual 161, 3) := by decide +kernel
theorem dX5_lacks_5 : decode cX5_lacks 5 = .ok (.getfield 179, 3) := by decide +kernel
theorem dX5_lacks_8 : decode cX5_lacks 8 = .ok (.invokevirtual 195, 3) := by decide +kernel
theorem dX5_lacks_11 : decode cX5_lacks 11 = .ok (.ireturn, 1) := by decide +kernel
set_option maxRecDepth 20000 in
theorem ggX5_takeOut_X5_checkExaminer : GoodIn wsX5_takeOut wsX5_checkExaminer := goodIn_ca (goodIn_r _ [10, 11, 12] (by decide +kernel) (by decide +kernel)) (goodIn_sub (fun _ h => List.mem_cons_of_mem _ (List.mem_append_right _ h)) (by decide +kernel))
set_option maxRecDepth 20000 in
theorem gX5_takeOut_X5_checkExaminer : GoodIn wsX5_takeOut (va_wsS RX5 176 yX5_checkExaminer wsX5_checkExaminer) := goodIn_app (goodIn_of _ (by decide +kernel)) ggX5_takeOut_X5_checkExaminer
set_option maxRecDepth 20000 in
theorem ggX5_takeOut_Jx4a65c_size_8abf5 : GoodIn wsX5_takeOut wsJx4a65c_size_8abf5 := goodIn_r _ [17, 18, 75, 76, 77] (by decide +kernel) (by decide +kernel)
set_option maxRecDepth 20000 in
theorem gX5_takeOut_Jx4a65c_size_8abf5 : GoodIn wsX5_takeOut (wsV RX5 78 RJx4a65c yJx4a65c_size_8abf5 wsJx4a65c_size_8abf5) := goodIn_app (goodIn_of _ (by decide +kernel)) ggX5_takeOut_Jx4a65c_size_8abf5
set_option maxRecDepth 20000 in
theorem ggX5_takeOut_Jx4a65c_get_915e3 : GoodIn wsX5_takeOut wsJx4a65c_get_915e3 := goodIn_r _ [22, 18, 23, 24, 25, 26, 27, 28, 29, 30, 31, 32, 33, 16, 34, 35, 75, 76, 77] (by decide +kernel) (by decide +kernel)
set_option maxRecDepth 20000 in
theorem gX5_takeOut_Jx4a65c_get_915e3 : GoodIn wsX5_takeOut (wsV RX5 209 RJx4a65c yJx4a65c_get_915e3 wsJx4a65c_get_915e3) := goodIn_app (goodIn_of _ (by decide +kernel)) ggX5_takeOut_Jx4a65c_get_915e3
set_option maxRecDepth 20000 in
theorem ggX5_takeOut_X0_result : GoodIn wsX5_takeOut wsX0_result := goodIn_r _ [40, 41, 42, 43, 44, 45, 46, 47, 48, 49, 50, 51, 52, 39, 53, 54, 55, 56, 78, 79, 80] (by decide +kernel) (by decide +kernel)
set_option maxRecDepth 20000 in
theorem gX5_takeOut_X0_result : GoodIn wsX5_takeOut (wsV RX5 204 RX0 yX0_result wsX0_result) := goodIn_app (goodIn_of _ (by decide +kernel)) ggX5_takeOut_X0_result
set_option maxRecDepth 20000 in
theorem ggX5_takeOut_X0_removeOf : GoodIn wsX5_takeOut wsX0_removeOf := goodIn_r _ [60, 49, 61, 41, 78, 79, 80] (by decide +kernel) (by decide +kernel)
set_option maxRecDepth 20000 in
theorem gX5_takeOut_X0_removeOf : GoodIn wsX5_takeOut (wsV RX5 213 RX0 yX0_removeOf wsX0_removeOf) := goodIn_app (goodIn_of _ (by decide +kernel)) ggX5_takeOut_X0_removeOf
theorem dX5_takeOut_0 : decode cX5_takeOut 0 = .ok (.iload_n 1, 1) := by decide +kernel
theorem dX5_takeOut_1 : decode cX5_takeOut 1 = .ok (.invokestatic 176, 3) := by decide +kernel
theorem dX5_takeOut_4 : decode cX5_takeOut 4 = .ok (.aload_n 0, 1) := by decide +kernel
theorem dX5_takeOut_5 : decode cX5_takeOut 5 = .ok (.getfield 36, 3) := by decide +kernel
theorem dX5_takeOut_8 : decode cX5_takeOut 8 = .ok (.iload_n 1, 1) := by decide +kernel
theorem dX5_takeOut_9 : decode cX5_takeOut 9 = .ok (.baload, 1) := by decide +kernel
theorem dX5_takeOut_10 : decode cX5_takeOut 10 = .ok (.ifCond .eq 13, 3) := by decide +kernel
theorem dX5_takeOut_13 : decode cX5_takeOut 13 = .ok (.new 55, 3) := by decide +kernel
theorem dX5_takeOut_16 : decode cX5_takeOut 16 = .ok (.dup, 1) := by decide +kernel
theorem dX5_takeOut_17 : decode cX5_takeOut 17 = .ok (.ldc 207, 2) := by decide +kernel
theorem dX5_takeOut_19 : decode cX5_takeOut 19 = .ok (.invokespecial 59, 3) := by decide +kernel
theorem dX5_takeOut_22 : decode cX5_takeOut 22 = .ok (.athrow, 1) := by decide +kernel
theorem dX5_takeOut_23 : decode cX5_takeOut 23 = .ok (.aload_n 0, 1) := by decide +kernel
theorem dX5_takeOut_24 : decode cX5_takeOut 24 = .ok (.getfield 36, 3) := by decide +kernel
theorem dX5_takeOut_27 : decode cX5_takeOut 27 = .ok (.iload_n 1, 1) := by decide +kernel
theorem dX5_takeOut_28 : decode cX5_takeOut 28 = .ok (.iconst 1, 1) := by decide +kernel
theorem dX5_takeOut_29 : decode cX5_takeOut 29 = .ok (.bastore, 1) := by decide +kernel
theorem dX5_takeOut_30 : decode cX5_takeOut 30 = .ok (.iconst 0, 1) := by decide +kernel
theorem dX5_takeOut_31 : decode cX5_takeOut 31 = .ok (.istore_n 2, 1) := by decide +kernel
theorem dX5_takeOut_32 : decode cX5_takeOut 32 = .ok (.iconst 0, 1) := by decide +kernel
theorem dX5_takeOut_33 : decode cX5_takeOut 33 = .ok (.istore_n 3, 1) := by decide +kernel
theorem dX5_takeOut_34 : decode cX5_takeOut 34 = .ok (.iload_n 3, 1) := by decide +kernel
theorem dX5_takeOut_35 : decode cX5_takeOut 35 = .ok (.aload_n 0, 1) := by decide +kernel
theorem dX5_takeOut_36 : decode cX5_takeOut 36 = .ok (.getfield 33, 3) := by decide +kernel
theorem dX5_takeOut_39 : decode cX5_takeOut 39 = .ok (.invokevirtual 78, 3) := by decide +kernel
theorem dX5_takeOut_42 : decode cX5_takeOut 42 = .ok (.if_icmp .ge 51, 3) := by decide +kernel
theorem dX5_takeOut_45 : decode cX5_takeOut 45 = .ok (.aload_n 0, 1) := by decide +kernel
theorem dX5_takeOut_46 : decode cX5_takeOut 46 = .ok (.getfield 33, 3) := by decide +kernel
theorem dX5_takeOut_49 : decode cX5_takeOut 49 = .ok (.iload_n 3, 1) := by decide +kernel
theorem dX5_takeOut_50 : decode cX5_takeOut 50 = .ok (.invokevirtual 209, 3) := by decide +kernel
theorem dX5_takeOut_53 : decode cX5_takeOut 53 = .ok (.checkcast 147, 3) := by decide +kernel
theorem dX5_takeOut_56 : decode cX5_takeOut 56 = .ok (.getfield 179, 3) := by decide +kernel
theorem dX5_takeOut_59 : decode cX5_takeOut 59 = .ok (.astore 4, 2) := by decide +kernel
theorem dX5_takeOut_61 : decode cX5_takeOut 61 = .ok (.aload 4, 2) := by decide +kernel
theorem dX5_takeOut_63 : decode cX5_takeOut 63 = .ok (.invokevirtual 204, 3) := by decide +kernel
theorem dX5_takeOut_66 : decode cX5_takeOut 66 = .ok (.istore 5, 2) := by decide +kernel
theorem dX5_takeOut_68 : decode cX5_takeOut 68 = .ok (.aload 4, 2) := by decide +kernel
theorem dX5_takeOut_70 : decode cX5_takeOut 70 = .ok (.iload_n 1, 1) := by decide +kernel
theorem dX5_takeOut_71 : decode cX5_takeOut 71 = .ok (.invokevirtual 213, 3) := by decide +kernel
theorem dX5_takeOut_74 : decode cX5_takeOut 74 = .ok (.aload 4, 2) := by decide +kernel
theorem dX5_takeOut_76 : decode cX5_takeOut 76 = .ok (.invokevirtual 204, 3) := by decide +kernel
theorem dX5_takeOut_79 : decode cX5_takeOut 79 = .ok (.iload 5, 2) := by decide +kernel
theorem dX5_takeOut_81 : decode cX5_takeOut 81 = .ok (.if_icmp .eq 6, 3) := by decide +kernel
theorem dX5_takeOut_84 : decode cX5_takeOut 84 = .ok (.iinc 2 1, 3) := by decide +kernel
theorem dX5_takeOut_87 : decode cX5_takeOut 87 = .ok (.iinc 3 1, 3) := by decide +kernel
theorem dX5_takeOut_90 : decode cX5_takeOut 90 = .ok (.goto (-56), 3) := by decide +kernel
theorem dX5_takeOut_93 : decode cX5_takeOut 93 = .ok (.iload_n 2, 1) := by decide +kernel
theorem dX5_takeOut_94 : decode cX5_takeOut 94 = .ok (.ireturn, 1) := by decide +kernel
set_option maxRecDepth 20000 in
theorem ggX5_show_X5_scriptNumbered : GoodIn wsX5_show wsX5_scriptNumbered := goodIn_ca (goodIn_r _ [9, 10, 11, 12, 13, 14, 15, 16, 17, 18, 19, 20, 21, 22, 23, 24, 25, 26, 27, 28, 29, 30, 31, 32, 33, 34, 35, 36, 69, 70, 71, 72, 73, 74, 75, 76, 77] (by decide +kernel) (by decide +kernel)) (goodIn_sub (fun _ h => List.mem_cons_of_mem _ (List.mem_append_right _ h)) (by decide +kernel))
set_option maxRecDepth 20000 in
theorem gX5_show_X5_scriptNumbered : GoodIn wsX5_show (wsV RX5 161 RX5 yX5_scriptNumbered wsX5_scriptNumbered) := goodIn_app (goodIn_of _ (by decide +kernel)) ggX5_show_X5_scriptNumbered
set_option maxRecDepth 20000 in
theorem ggX5_show_X0_result : GoodIn wsX5_show wsX0_result := goodIn_r _ [41, 42, 43, 44, 45, 46, 47, 48, 49, 50, 51, 52, 53, 40, 54, 55, 56, 57, 78, 79, 80] (by decide +kernel) (by decide +kernel)
set_option maxRecDepth 20000 in
theorem gX5_show_X0_result : GoodIn wsX5_show (wsV RX5 204 RX0 yX0_result wsX0_result) := goodIn_app (goodIn_of _ (by decide +kernel)) ggX5_show_X0_result
set_option maxRecDepth 20000 in
theorem ggX5_show_X5_shownCount : GoodIn wsX5_show wsX5_shownCount := goodIn_r _ [61, 12, 13, 3, 14, 15, 16, 17, 18, 19, 20, 21, 22, 23, 24, 25, 26, 27, 28, 29, 30, 31, 32, 33, 34, 35, 36, 69, 70, 71, 72, 73, 74, 62, 63, 64, 65, 66, 67, 68, 75, 76, 77] (by decide +kernel) (by decide +kernel)
set_option maxRecDepth 20000 in
theorem gX5_show_X5_shownCount : GoodIn wsX5_show (wsV RX5 223 RX5 yX5_shownCount wsX5_shownCount) := goodIn_app (goodIn_of _ (by decide +kernel)) ggX5_show_X5_shownCount
theorem dX5_show_0 : decode cX5_show 0 = .ok (.aload_n 0, 1) := by decide +kernel
theorem dX5_show_1 : decode cX5_show 1 = .ok (.iload_n 1, 1) := by decide +kernel
theorem dX5_show_2 : decode cX5_show 2 = .ok (.invokevirtual 161, 3) := by decide +kernel
theorem dX5_show_5 : decode cX5_show 5 = .ok (.astore_n 2, 1) := by decide +kernel
theorem dX5_show_6 : decode cX5_show 6 = .ok (.aload_n 2, 1) := by decide +kernel
theorem dX5_show_7 : decode cX5_show 7 = .ok (.getfield 216, 3) := by decide +kernel
theorem dX5_show_10 : decode cX5_show 10 = .ok (.ifCond .eq 13, 3) := by decide +kernel
theorem dX5_show_13 : decode cX5_show 13 = .ok (.new 55, 3) := by decide +kernel
theorem dX5_show_16 : decode cX5_show 16 = .ok (.dup, 1) := by decide +kernel
theorem dX5_show_17 : decode cX5_show 17 = .ok (.ldc 219, 2) := by decide +kernel
theorem dX5_show_19 : decode cX5_show 19 = .ok (.invokespecial 59, 3) := by decide +kernel
theorem dX5_show_22 : decode cX5_show 22 = .ok (.athrow, 1) := by decide +kernel
theorem dX5_show_23 : decode cX5_show 23 = .ok (.aload_n 2, 1) := by decide +kernel
theorem dX5_show_24 : decode cX5_show 24 = .ok (.getfield 179, 3) := by decide +kernel
theorem dX5_show_27 : decode cX5_show 27 = .ok (.invokevirtual 204, 3) := by decide +kernel
theorem dX5_show_30 : decode cX5_show 30 = .ok (.iconst (-1), 1) := by decide +kernel
theorem dX5_show_31 : decode cX5_show 31 = .ok (.if_icmp .ne 13, 3) := by decide +kernel
theorem dX5_show_34 : decode cX5_show 34 = .ok (.new 55, 3) := by decide +kernel
theorem dX5_show_37 : decode cX5_show 37 = .ok (.dup, 1) := by decide +kernel
theorem dX5_show_38 : decode cX5_show 38 = .ok (.ldc 221, 2) := by decide +kernel
theorem dX5_show_40 : decode cX5_show 40 = .ok (.invokespecial 59, 3) := by decide +kernel
theorem dX5_show_43 : decode cX5_show 43 = .ok (.athrow, 1) := by decide +kernel
theorem dX5_show_44 : decode cX5_show 44 = .ok (.aload_n 2, 1) := by decide +kernel
theorem dX5_show_45 : decode cX5_show 45 = .ok (.iconst 1, 1) := by decide +kernel
theorem dX5_show_46 : decode cX5_show 46 = .ok (.putfield 216, 3) := by decide +kernel
theorem dX5_show_49 : decode cX5_show 49 = .ok (.aload_n 0, 1) := by decide +kernel
theorem dX5_show_50 : decode cX5_show 50 = .ok (.invokevirtual 223, 3) := by decide +kernel
theorem dX5_show_53 : decode cX5_show 53 = .ok (.ireturn, 1) := by decide +kernel
set_option maxRecDepth 20000 in
theorem ggX5_vote_X5_checkClass : GoodIn wsX5_vote wsX5_checkClass := goodIn_ca (goodIn_r _ [10, 11, 12] (by decide +kernel) (by decide +kernel)) (goodIn_sub (fun _ h => List.mem_cons_of_mem _ (List.mem_append_right _ h)) (by decide +kernel))
set_option maxRecDepth 20000 in
theorem gX5_vote_X5_checkClass : GoodIn wsX5_vote (va_wsS RX5 101 yX5_checkClass wsX5_checkClass) := goodIn_app (goodIn_of _ (by decide +kernel)) ggX5_vote_X5_checkClass
set_option maxRecDepth 20000 in
theorem ggX5_vote_X5_scriptNumbered : GoodIn wsX5_vote wsX5_scriptNumbered := goodIn_ca (goodIn_r _ [16, 11, 12, 17, 18, 19, 20, 21, 22, 23, 24, 25, 26, 27, 28, 29, 30, 31, 32, 33, 34, 35, 36, 37, 38, 39, 40, 41, 59, 60, 61, 62, 63, 64, 65, 66, 67] (by decide +kernel) (by decide +kernel)) (goodIn_sub (fun _ h => List.mem_cons_of_mem _ (List.mem_append_right _ h)) (by decide +kernel))
set_option maxRecDepth 20000 in
theorem gX5_vote_X5_scriptNumbered : GoodIn wsX5_vote (wsV RX5 161 RX5 yX5_scriptNumbered wsX5_scriptNumbered) := goodIn_app (goodIn_of _ (by decide +kernel)) ggX5_vote_X5_scriptNumbered
set_option maxRecDepth 20000 in
theorem ggX5_vote_X3_setPoints : GoodIn wsX5_vote wsX3_setPoints := goodIn_r _ [46, 47, 52, 53, 54, 55, 56, 57, 58] (by decide +kernel) (by decide +kernel)
set_option maxRecDepth 20000 in
theorem gX5_vote_X3_setPoints : GoodIn wsX5_vote (wsV RX5 233 RX3 yX3_setPoints wsX3_setPoints) := goodIn_app (goodIn_of _ (by decide +kernel)) ggX5_vote_X3_setPoints
set_option maxRecDepth 20000 in
theorem ggX5_vote_X3_allPoints : GoodIn wsX5_vote wsX3_allPoints := goodIn_r _ [51, 47, 52, 53, 54, 55, 56, 57, 58] (by decide +kernel) (by decide +kernel)
set_option maxRecDepth 20000 in
theorem gX5_vote_X3_allPoints : GoodIn wsX5_vote (wsV RX5 236 RX3 yX3_allPoints wsX3_allPoints) := goodIn_app (goodIn_of _ (by decide +kernel)) ggX5_vote_X3_allPoints
theorem dX5_vote_0 : decode cX5_vote 0 = .ok (.iload_n 1, 1) := by decide +kernel
theorem dX5_vote_1 : decode cX5_vote 1 = .ok (.invokestatic 101, 3) := by decide +kernel
theorem dX5_vote_4 : decode cX5_vote 4 = .ok (.aload_n 0, 1) := by decide +kernel
theorem dX5_vote_5 : decode cX5_vote 5 = .ok (.iload_n 2, 1) := by decide +kernel
theorem dX5_vote_6 : decode cX5_vote 6 = .ok (.invokevirtual 161, 3) := by decide +kernel
theorem dX5_vote_9 : decode cX5_vote 9 = .ok (.astore 4, 2) := by decide +kernel
theorem dX5_vote_11 : decode cX5_vote 11 = .ok (.iload_n 3, 1) := by decide +kernel
theorem dX5_vote_12 : decode cX5_vote 12 = .ok (.ifCond .lt 8, 3) := by decide +kernel
theorem dX5_vote_15 : decode cX5_vote 15 = .ok (.iload_n 3, 1) := by decide +kernel
theorem dX5_vote_16 : decode cX5_vote 16 = .ok (.iconst 5, 1) := by decide +kernel
theorem dX5_vote_17 : decode cX5_vote 17 = .ok (.if_icmp .le 13, 3) := by decide +kernel
theorem dX5_vote_20 : decode cX5_vote 20 = .ok (.new 44, 3) := by decide +kernel
theorem dX5_vote_23 : decode cX5_vote 23 = .ok (.dup, 1) := by decide +kernel
theorem dX5_vote_24 : decode cX5_vote 24 = .ok (.ldc 226, 2) := by decide +kernel
theorem dX5_vote_26 : decode cX5_vote 26 = .ok (.invokespecial 48, 3) := by decide +kernel
theorem dX5_vote_29 : decode cX5_vote 29 = .ok (.athrow, 1) := by decide +kernel
theorem dX5_vote_30 : decode cX5_vote 30 = .ok (.aload 4, 2) := by decide +kernel
theorem dX5_vote_32 : decode cX5_vote 32 = .ok (.getfield 216, 3) := by decide +kernel
theorem dX5_vote_35 : decode cX5_vote 35 = .ok (.ifCond .ne 13, 3) := by decide +kernel
theorem dX5_vote_38 : decode cX5_vote 38 = .ok (.new 55, 3) := by decide +kernel
theorem dX5_vote_41 : decode cX5_vote 41 = .ok (.dup, 1) := by decide +kernel
theorem dX5_vote_42 : decode cX5_vote 42 = .ok (.ldc 228, 2) := by decide +kernel
theorem dX5_vote_44 : decode cX5_vote 44 = .ok (.invokespecial 59, 3) := by decide +kernel
theorem dX5_vote_47 : decode cX5_vote 47 = .ok (.athrow, 1) := by decide +kernel
theorem dX5_vote_48 : decode cX5_vote 48 = .ok (.aload 4, 2) := by decide +kernel
theorem dX5_vote_50 : decode cX5_vote 50 = .ok (.getfield 230, 3) := by decide +kernel
theorem dX5_vote_53 : decode cX5_vote 53 = .ok (.iload_n 1, 1) := by decide +kernel
theorem dX5_vote_54 : decode cX5_vote 54 = .ok (.if_icmp .ne 13, 3) := by decide +kernel
theorem dX5_vote_57 : decode cX5_vote 57 = .ok (.new 55, 3) := by decide +kernel
theorem dX5_vote_60 : decode cX5_vote 60 = .ok (.dup, 1) := by decide +kernel
theorem dX5_vote_61 : decode cX5_vote 61 = .ok (.ldc 231, 2) := by decide +kernel
theorem dX5_vote_63 : decode cX5_vote 63 = .ok (.invokespecial 59, 3) := by decide +kernel
theorem dX5_vote_66 : decode cX5_vote 66 = .ok (.athrow, 1) := by decide +kernel
theorem dX5_vote_67 : decode cX5_vote 67 = .ok (.aload 4, 2) := by decide +kernel
theorem dX5_vote_69 : decode cX5_vote 69 = .ok (.iload_n 1, 1) := by decide +kernel
theorem dX5_vote_70 : decode cX5_vote 70 = .ok (.iload_n 3, 1) := by decide +kernel
theorem dX5_vote_71 : decode cX5_vote 71 = .ok (.invokevirtual 233, 3) := by decide +kernel
theorem dX5_vote_74 : decode cX5_vote 74 = .ok (.aload 4, 2) := by decide +kernel
theorem dX5_vote_76 : decode cX5_vote 76 = .ok (.invokevirtual 236, 3) := by decide +kernel
theorem dX5_vote_79 : decode cX5_vote 79 = .ok (.ireturn, 1) := by decide +kernel
set_option maxRecDepth 20000 in
theorem ggX5_worth_X5_scriptNumbered : GoodIn wsX5_worth wsX5_scriptNumbered := goodIn_ca (goodIn_r _ [5, 6, 7, 8, 9, 10, 11, 12, 13, 14, 15, 16, 17, 18, 19, 20, 21, 22, 23, 24, 25, 26, 27, 28, 29, 30, 31, 32, 71, 72, 73, 74, 75, 76, 77, 78, 79] (by decide +kernel) (by decide +kernel)) (goodIn_sub (fun _ h => List.mem_cons_of_mem _ (List.mem_append_right _ h)) (by decide +kernel))
set_option maxRecDepth 20000 in
theorem gX5_worth_X5_scriptNumbered : GoodIn wsX5_worth (wsV RX5 161 RX5 yX5_scriptNumbered wsX5_scriptNumbered) := goodIn_app (goodIn_of _ (by decide +kernel)) ggX5_worth_X5_scriptNumbered
set_option maxRecDepth 20000 in
theorem ggX5_worth_X3_worthNow : GoodIn wsX5_worth wsX3_worthNow := goodIn_r _ [37, 38, 39, 40, 41, 42, 43, 44, 45, 46, 47, 48, 49, 50, 51, 52, 53, 54, 55, 56, 57, 58, 59, 60, 61, 62, 63, 36, 64, 65, 66, 67, 68, 69, 70, 80, 81, 82, 83, 84, 85, 86, 87, 88, 89] (by decide +kernel) (by decide +kernel)
set_option maxRecDepth 20000 in
theorem gX5_worth_X3_worthNow : GoodIn wsX5_worth (wsV RX5 239 RX3 yX3_worthNow wsX3_worthNow) := goodIn_app (goodIn_of _ (by decide +kernel)) ggX5_worth_X3_worthNow
theorem dX5_worth_0 : decode cX5_worth 0 = .ok (.aload_n 0, 1) := by decide +kernel
theorem dX5_worth_1 : decode cX5_worth 1 = .ok (.iload_n 1, 1) := by decide +kernel
theorem dX5_worth_2 : decode cX5_worth 2 = .ok (.invokevirtual 161, 3) := by decide +kernel
theorem dX5_worth_5 : decode cX5_worth 5 = .ok (.invokevirtual 239, 3) := by decide +kernel
theorem dX5_worth_8 : decode cX5_worth 8 = .ok (.ireturn, 1) := by decide +kernel
set_option maxRecDepth 20000 in
theorem ggX5_place_X5_scriptNumbered : GoodIn wsX5_place wsX5_scriptNumbered := goodIn_ca (goodIn_r _ [5, 6, 7, 8, 9, 10, 11, 12, 13, 14, 15, 16, 17, 18, 19, 20, 21, 22, 23, 24, 25, 26, 27, 28, 29, 30, 31, 32, 75, 76, 77, 78, 79, 80, 81, 82, 83] (by decide +kernel) (by decide +kernel)) (goodIn_sub (fun _ h => List.mem_cons_of_mem _ (List.mem_append_right _ h)) (by decide +kernel))
set_option maxRecDepth 20000 in
theorem gX5_place_X5_scriptNumbered : GoodIn wsX5_place (wsV RX5 161 RX5 yX5_scriptNumbered wsX5_scriptNumbered) := goodIn_app (goodIn_of _ (by decide +kernel)) ggX5_place_X5_scriptNumbered
set_option maxRecDepth 20000 in
theorem ggX5_place_X3_worthNow : GoodIn wsX5_place wsX3_worthNow := goodIn_r _ [37, 38, 39, 40, 41, 42, 43, 44, 45, 46, 47, 48, 49, 50, 51, 52, 53, 54, 55, 56, 57, 58, 59, 60, 61, 62, 63, 36, 64, 65, 66, 67, 68, 69, 70, 84, 85, 86, 87, 88, 89, 90, 91, 92, 93] (by decide +kernel) (by decide +kernel)
set_option maxRecDepth 20000 in
theorem gX5_place_X3_worthNow : GoodIn wsX5_place (wsV RX5 239 RX3 yX3_worthNow wsX3_worthNow) := goodIn_app (goodIn_of _ (by decide +kernel)) ggX5_place_X3_worthNow
set_option maxRecDepth 20000 in
theorem ggX5_place_X5_placeNow : GoodIn wsX5_place wsX5_placeNow := goodIn_r _ [74, 8, 9, 10, 11, 12, 13, 14, 15, 16, 17, 18, 19, 20, 21, 22, 23, 24, 25, 26, 27, 28, 29, 30, 31, 32, 33, 34, 35, 36, 37, 38, 39, 40, 41, 42, 43, 44, 45, 46, 47, 48, 49, 50, 51, 52, 53, 54, 55, 56, 57, 58, 59, 60, 61, 62, 63, 64, 65, 66, 67, 68, 69, 70, 75, 76, 77, 78, 79, 80, 81, 82, 83, 84, 85, 86, 87, 88, 89, 90, 91, 92, 93] (by decide +kernel) (by decide +kernel)
set_option maxRecDepth 20000 in
theorem gX5_place_X5_placeNow : GoodIn wsX5_place (wsV RX5 242 RX5 yX5_placeNow wsX5_placeNow) := goodIn_app (goodIn_of _ (by decide +kernel)) ggX5_place_X5_placeNow
theorem dX5_place_0 : decode cX5_place 0 = .ok (.aload_n 0, 1) := by decide +kernel
theorem dX5_place_1 : decode cX5_place 1 = .ok (.iload_n 1, 1) := by decide +kernel
theorem dX5_place_2 : decode cX5_place 2 = .ok (.aload_n 0, 1) := by decide +kernel
theorem dX5_place_3 : decode cX5_place 3 = .ok (.iload_n 1, 1) := by decide +kernel
theorem dX5_place_4 : decode cX5_place 4 = .ok (.invokevirtual 161, 3) := by decide +kernel
theorem dX5_place_7 : decode cX5_place 7 = .ok (.invokevirtual 239, 3) := by decide +kernel
theorem dX5_place_10 : decode cX5_place 10 = .ok (.invokevirtual 242, 3) := by decide +kernel
theorem dX5_place_13 : decode cX5_place 13 = .ok (.ireturn, 1) := by decide +kernel
set_option maxRecDepth 20000 in
theorem ggX5_at_Jx4a65c_size_8abf5 : GoodIn wsX5_at wsJx4a65c_size_8abf5 := goodIn_r _ [9, 10, 77, 78, 79] (by decide +kernel) (by decide +kernel)
set_option maxRecDepth 20000 in
theorem gX5_at_Jx4a65c_size_8abf5 : GoodIn wsX5_at (wsV RX5 78 RJx4a65c yJx4a65c_size_8abf5 wsJx4a65c_size_8abf5) := goodIn_app (goodIn_of _ (by decide +kernel)) ggX5_at_Jx4a65c_size_8abf5
set_option maxRecDepth 20000 in
theorem ggX5_at_Jx4a65c_get_915e3 : GoodIn wsX5_at wsJx4a65c_get_915e3 := goodIn_r _ [14, 10, 15, 16, 17, 18, 19, 20, 21, 22, 23, 24, 25, 8, 26, 27, 77, 78, 79] (by decide +kernel) (by decide +kernel)
set_option maxRecDepth 20000 in
theorem gX5_at_Jx4a65c_get_915e3 : GoodIn wsX5_at (wsV RX5 209 RJx4a65c yJx4a65c_get_915e3 wsJx4a65c_get_915e3) := goodIn_app (goodIn_of _ (by decide +kernel)) ggX5_at_Jx4a65c_get_915e3
set_option maxRecDepth 20000 in
theorem ggX5_at_X3_worthNow : GoodIn wsX5_at wsX3_worthNow := goodIn_r _ [32, 33, 34, 35, 36, 37, 38, 39, 40, 41, 42, 43, 44, 45, 46, 47, 48, 49, 50, 51, 52, 53, 54, 55, 56, 57, 58, 31, 59, 60, 61, 62, 63, 64, 65, 80, 81, 82, 83, 84, 85, 86, 87, 88, 89] (by decide +kernel) (by decide +kernel)
set_option maxRecDepth 20000 in
theorem gX5_at_X3_worthNow : GoodIn wsX5_at (wsV RX5 239 RX3 yX3_worthNow wsX3_worthNow) := goodIn_app (goodIn_of _ (by decide +kernel)) ggX5_at_X3_worthNow
set_option maxRecDepth 20000 in
theorem ggX5_at_X5_placeNow : GoodIn wsX5_at wsX5_placeNow := goodIn_r _ [70, 3, 4, 5, 6, 7, 8, 9, 10, 11, 12, 13, 14, 15, 16, 17, 18, 19, 20, 21, 22, 23, 24, 25, 26, 27, 28, 29, 30, 31, 32, 33, 34, 35, 36, 37, 38, 39, 40, 41, 42, 43, 44, 45, 46, 47, 48, 49, 50, 51, 52, 53, 54, 55, 56, 57, 58, 59, 60, 61, 62, 63, 64, 65, 71, 72, 73, 74, 75, 76, 77, 78, 79, 80, 81, 82, 83, 84, 85, 86, 87, 88, 89] (by decide +kernel) (by decide +kernel)
set_option maxRecDepth 20000 in
theorem gX5_at_X5_placeNow : GoodIn wsX5_at (wsV RX5 242 RX5 yX5_placeNow wsX5_placeNow) := goodIn_app (goodIn_of _ (by decide +kernel)) ggX5_at_X5_placeNow
theorem dX5_at_0 : decode cX5_at 0 = .ok (.iload_n 1, 1) := by decide +kernel
theorem dX5_at_1 : decode cX5_at 1 = .ok (.iconst 1, 1) := by decide +kernel
theorem dX5_at_2 : decode cX5_at 2 = .ok (.if_icmp .ge 13, 3) := by decide +kernel
theorem dX5_at_5 : decode cX5_at 5 = .ok (.new 92, 3) := by decide +kernel
theorem dX5_at_8 : decode cX5_at 8 = .ok (.dup, 1) := by decide +kernel
theorem dX5_at_9 : decode cX5_at 9 = .ok (.ldc 245, 2) := by decide +kernel
theorem dX5_at_11 : decode cX5_at 11 = .ok (.invokespecial 96, 3) := by decide +kernel
theorem dX5_at_14 : decode cX5_at 14 = .ok (.athrow, 1) := by decide +kernel
theorem dX5_at_15 : decode cX5_at 15 = .ok (.iconst 0, 1) := by decide +kernel
theorem dX5_at_16 : decode cX5_at 16 = .ok (.istore_n 2, 1) := by decide +kernel
theorem dX5_at_17 : decode cX5_at 17 = .ok (.iload_n 2, 1) := by decide +kernel
theorem dX5_at_18 : decode cX5_at 18 = .ok (.aload_n 0, 1) := by decide +kernel
theorem dX5_at_19 : decode cX5_at 19 = .ok (.getfield 33, 3) := by decide +kernel
theorem dX5_at_22 : decode cX5_at 22 = .ok (.invokevirtual 78, 3) := by decide +kernel
theorem dX5_at_25 : decode cX5_at 25 = .ok (.if_icmp .ge 34, 3) := by decide +kernel
theorem dX5_at_28 : decode cX5_at 28 = .ok (.aload_n 0, 1) := by decide +kernel
theorem dX5_at_29 : decode cX5_at 29 = .ok (.iload_n 2, 1) := by decide +kernel
theorem dX5_at_30 : decode cX5_at 30 = .ok (.aload_n 0, 1) := by decide +kernel
theorem dX5_at_31 : decode cX5_at 31 = .ok (.getfield 33, 3) := by decide +kernel
theorem dX5_at_34 : decode cX5_at 34 = .ok (.iload_n 2, 1) := by decide +kernel
theorem dX5_at_35 : decode cX5_at 35 = .ok (.invokevirtual 209, 3) := by decide +kernel
theorem dX5_at_38 : decode cX5_at 38 = .ok (.checkcast 147, 3) := by decide +kernel
theorem dX5_at_41 : decode cX5_at 41 = .ok (.invokevirtual 239, 3) := by decide +kernel
theorem dX5_at_44 : decode cX5_at 44 = .ok (.invokevirtual 242, 3) := by decide +kernel
theorem dX5_at_47 : decode cX5_at 47 = .ok (.iload_n 1, 1) := by decide +kernel
theorem dX5_at_48 : decode cX5_at 48 = .ok (.if_icmp .ne 5, 3) := by decide +kernel
theorem dX5_at_51 : decode cX5_at 51 = .ok (.iload_n 2, 1) := by decide +kernel
theorem dX5_at_52 : decode cX5_at 52 = .ok (.ireturn, 1) := by decide +kernel
theorem dX5_at_53 : decode cX5_at 53 = .ok (.iinc 2 1, 3) := by decide +kernel
theorem dX5_at_56 : decode cX5_at 56 = .ok (.goto (-39), 3) := by decide +kernel
theorem dX5_at_59 : decode cX5_at 59 = .ok (.iconst (-1), 1) := by decide +kernel
theorem dX5_at_60 : decode cX5_at 60 = .ok (.ireturn, 1) := by decide +kernel
theorem dX5_checkDot_0 : decode cX5_checkDot 0 = .ok (.iload_n 0, 1) := by decide +kernel
theorem dX5_checkDot_1 : decode cX5_checkDot 1 = .ok (.ifCond .lt 9, 3) := by decide +kernel
theorem dX5_checkDot_4 : decode cX5_checkDot 4 = .ok (.iload_n 0, 1) := by decide +kernel
theorem dX5_checkDot_5 : decode cX5_checkDot 5 = .ok (.bipush 9, 2) := by decide +kernel
theorem dX5_checkDot_7 : decode cX5_checkDot 7 = .ok (.if_icmp .lt 13, 3) := by decide +kernel
theorem dX5_checkDot_10 : decode cX5_checkDot 10 = .ok (.new 92, 3) := by decide +kernel
theorem dX5_checkDot_13 : decode cX5_checkDot 13 = .ok (.dup, 1) := by decide +kernel
theorem dX5_checkDot_14 : decode cX5_checkDot 14 = .ok (.ldc 247, 2) := by decide +kernel
theorem dX5_checkDot_16 : decode cX5_checkDot 16 = .ok (.invokespecial 96, 3) := by decide +kernel
theorem dX5_checkDot_19 : decode cX5_checkDot 19 = .ok (.athrow, 1) := by decide +kernel
theorem dX5_checkDot_20 : decode cX5_checkDot 20 = .ok (.return_, 1) := by decide +kernel
theorem dX5_checkClass_0 : decode cX5_checkClass 0 = .ok (.iload_n 0, 1) := by decide +kernel
theorem dX5_checkClass_1 : decode cX5_checkClass 1 = .ok (.ifCond .lt 8, 3) := by decide +kernel
theorem dX5_checkClass_4 : decode cX5_checkClass 4 = .ok (.iload_n 0, 1) := by decide +kernel
theorem dX5_checkClass_5 : decode cX5_checkClass 5 = .ok (.iconst 4, 1) := by decide +kernel
theorem dX5_checkClass_6 : decode cX5_checkClass 6 = .ok (.if_icmp .lt 13, 3) := by decide +kernel
theorem dX5_checkClass_9 : decode cX5_checkClass 9 = .ok (.new 92, 3) := by decide +kernel
theorem dX5_checkClass_12 : decode cX5_checkClass 12 = .ok (.dup, 1) := by decide +kernel
theorem dX5_checkClass_13 : decode cX5_checkClass 13 = .ok (.ldc 249, 2) := by decide +kernel
theorem dX5_checkClass_15 : decode cX5_checkClass 15 = .ok (.invokespecial 96, 3) := by decide +kernel
theorem dX5_checkClass_18 : decode cX5_checkClass 18 = .ok (.athrow, 1) := by decide +kernel
theorem dX5_checkClass_19 : decode cX5_checkClass 19 = .ok (.return_, 1) := by decide +kernel
theorem dX5_checkBand_0 : decode cX5_checkBand 0 = .ok (.iload_n 0, 1) := by decide +kernel
theorem dX5_checkBand_1 : decode cX5_checkBand 1 = .ok (.ifCond .lt 8, 3) := by decide +kernel
theorem dX5_checkBand_4 : decode cX5_checkBand 4 = .ok (.iload_n 0, 1) := by decide +kernel
theorem dX5_checkBand_5 : decode cX5_checkBand 5 = .ok (.iconst 3, 1) := by decide +kernel
theorem dX5_checkBand_6 : decode cX5_checkBand 6 = .ok (.if_icmp .lt 13, 3) := by decide +kernel
theorem dX5_checkBand_9 : decode cX5_checkBand 9 = .ok (.new 92, 3) := by decide +kernel
theorem dX5_checkBand_12 : decode cX5_checkBand 12 = .ok (.dup, 1) := by decide +kernel
theorem dX5_checkBand_13 : decode cX5_checkBand 13 = .ok (.ldc 251, 2) := by decide +kernel
theorem dX5_checkBand_15 : decode cX5_checkBand 15 = .ok (.invokespecial 96, 3) := by decide +kernel
theorem dX5_checkBand_18 : decode cX5_checkBand 18 = .ok (.athrow, 1) := by decide +kernel
theorem dX5_checkBand_19 : decode cX5_checkBand 19 = .ok (.return_, 1) := by decide +kernel
theorem dX5_checkExaminer_0 : decode cX5_checkExaminer 0 = .ok (.iload_n 0, 1) := by decide +kernel
theorem dX5_checkExaminer_1 : decode cX5_checkExaminer 1 = .ok (.ifCond .lt 9, 3) := by decide +kernel
theorem dX5_checkExaminer_4 : decode cX5_checkExaminer 4 = .ok (.iload_n 0, 1) := by decide +kernel
theorem dX5_checkExaminer_5 : decode cX5_checkExaminer 5 = .ok (.bipush 6, 2) := by decide +kernel
theorem dX5_checkExaminer_7 : decode cX5_checkExaminer 7 = .ok (.if_icmp .lt 13, 3) := by decide +kernel
theorem dX5_checkExaminer_10 : decode cX5_checkExaminer 10 = .ok (.new 92, 3) := by decide +kernel
theorem dX5_checkExaminer_13 : decode cX5_checkExaminer 13 = .ok (.dup, 1) := by decide +kernel
theorem dX5_checkExaminer_14 : decode cX5_checkExaminer 14 = .ok (.ldc 253, 2) := by decide +kernel
theorem dX5_checkExaminer_16 : decode cX5_checkExaminer 16 = .ok (.invokespecial 96, 3) := by decide +kernel
theorem dX5_checkExaminer_19 : decode cX5_checkExaminer 19 = .ok (.athrow, 1) := by decide +kernel
theorem dX5_checkExaminer_20 : decode cX5_checkExaminer 20 = .ok (.return_, 1) := by decide +kernel
set_option maxRecDepth 20000 in
theorem ggX5_letterNumbered_Jx4a65c_size_8abf5 : GoodIn wsX5_letterNumbered wsJx4a65c_size_8abf5 := goodIn_r _ [9, 10, 34, 35, 36] (by decide +kernel) (by decide +kernel)
set_option maxRecDepth 20000 in
theorem gX5_letterNumbered_Jx4a65c_size_8abf5 : GoodIn wsX5_letterNumbered (wsV RX5 78 RJx4a65c yJx4a65c_size_8abf5 wsJx4a65c_size_8abf5) := goodIn_app (goodIn_of _ (by decide +kernel)) ggX5_letterNumbered_Jx4a65c_size_8abf5
set_option maxRecDepth 20000 in
theorem ggX5_letterNumbered_Jx4a65c_get_915e3 : GoodIn wsX5_letterNumbered wsJx4a65c_get_915e3 := goodIn_r _ [14, 10, 15, 16, 17, 18, 19, 20, 21, 22, 23, 24, 25, 8, 26, 27, 34, 35, 36] (by decide +kernel) (by decide +kernel)
set_option maxRecDepth 20000 in
theorem gX5_letterNumbered_Jx4a65c_get_915e3 : GoodIn wsX5_letterNumbered (wsV RX5 209 RJx4a65c yJx4a65c_get_915e3 wsJx4a65c_get_915e3) := goodIn_app (goodIn_of _ (by decide +kernel)) ggX5_letterNumbered_Jx4a65c_get_915e3
theorem dX5_letterNumbered_0 : decode cX5_letterNumbered 0 = .ok (.iload_n 1, 1) := by decide +kernel
theorem dX5_letterNumbered_1 : decode cX5_letterNumbered 1 = .ok (.ifCond .lt 14, 3) := by decide +kernel
theorem dX5_letterNumbered_4 : decode cX5_letterNumbered 4 = .ok (.iload_n 1, 1) := by decide +kernel
theorem dX5_letterNumbered_5 : decode cX5_letterNumbered 5 = .ok (.aload_n 0, 1) := by decide +kernel
theorem dX5_letterNumbered_6 : decode cX5_letterNumbered 6 = .ok (.getfield 26, 3) := by decide +kernel
theorem dX5_letterNumbered_9 : decode cX5_letterNumbered 9 = .ok (.invokevirtual 78, 3) := by decide +kernel
theorem dX5_letterNumbered_12 : decode cX5_letterNumbered 12 = .ok (.if_icmp .lt 13, 3) := by decide +kernel
theorem dX5_letterNumbered_15 : decode cX5_letterNumbered 15 = .ok (.new 92, 3) := by decide +kernel
theorem dX5_letterNumbered_18 : decode cX5_letterNumbered 18 = .ok (.dup, 1) := by decide +kernel
theorem dX5_letterNumbered_19 : decode cX5_letterNumbered 19 = .ok (.ldc 255, 2) := by decide +kernel
theorem dX5_letterNumbered_21 : decode cX5_letterNumbered 21 = .ok (.invokespecial 96, 3) := by decide +kernel
theorem dX5_letterNumbered_24 : decode cX5_letterNumbered 24 = .ok (.athrow, 1) := by decide +kernel
theorem dX5_letterNumbered_25 : decode cX5_letterNumbered 25 = .ok (.aload_n 0, 1) := by decide +kernel
theorem dX5_letterNumbered_26 : decode cX5_letterNumbered 26 = .ok (.getfield 26, 3) := by decide +kernel
theorem dX5_letterNumbered_29 : decode cX5_letterNumbered 29 = .ok (.iload_n 1, 1) := by decide +kernel
theorem dX5_letterNumbered_30 : decode cX5_letterNumbered 30 = .ok (.invokevirtual 209, 3) := by decide +kernel
theorem dX5_letterNumbered_33 : decode cX5_letterNumbered 33 = .ok (.checkcast 7, 3) := by decide +kernel
theorem dX5_letterNumbered_36 : decode cX5_letterNumbered 36 = .ok (.areturn, 1) := by decide +kernel
set_option maxRecDepth 20000 in
theorem ggX5_pupilNumbered_Jx4a65c_size_8abf5 : GoodIn wsX5_pupilNumbered wsJx4a65c_size_8abf5 := goodIn_r _ [9, 10, 34, 35, 36] (by decide +kernel) (by decide +kernel)
set_option maxRecDepth 20000 in
theorem gX5_pupilNumbered_Jx4a65c_size_8abf5 : GoodIn wsX5_pupilNumbered (wsV RX5 78 RJx4a65c yJx4a65c_size_8abf5 wsJx4a65c_size_8abf5) := goodIn_app (goodIn_of _ (by decide +kernel)) ggX5_pupilNumbered_Jx4a65c_size_8abf5
set_option maxRecDepth 20000 in
theorem ggX5_pupilNumbered_Jx4a65c_get_915e3 : GoodIn wsX5_pupilNumbered wsJx4a65c_get_915e3 := goodIn_r _ [14, 10, 15, 16, 17, 18, 19, 20, 21, 22, 23, 24, 25, 8, 26, 27, 34, 35, 36] (by decide +kernel) (by decide +kernel)
set_option maxRecDepth 20000 in
theorem gX5_pupilNumbered_Jx4a65c_get_915e3 : GoodIn wsX5_pupilNumbered (wsV RX5 209 RJx4a65c yJx4a65c_get_915e3 wsJx4a65c_get_915e3) := goodIn_app (goodIn_of _ (by decide +kernel)) ggX5_pupilNumbered_Jx4a65c_get_915e3
theorem dX5_pupilNumbered_0 : decode cX5_pupilNumbered 0 = .ok (.iload_n 1, 1) := by decide +kernel
theorem dX5_pupilNumbered_1 : decode cX5_pupilNumbered 1 = .ok (.ifCond .lt 14, 3) := by decide +kernel
theorem dX5_pupilNumbered_4 : decode cX5_pupilNumbered 4 = .ok (.iload_n 1, 1) := by decide +kernel
theorem dX5_pupilNumbered_5 : decode cX5_pupilNumbered 5 = .ok (.aload_n 0, 1) := by decide +kernel
theorem dX5_pupilNumbered_6 : decode cX5_pupilNumbered 6 = .ok (.getfield 30, 3) := by decide +kernel
theorem dX5_pupilNumbered_9 : decode cX5_pupilNumbered 9 = .ok (.invokevirtual 78, 3) := by decide +kernel
theorem dX5_pupilNumbered_12 : decode cX5_pupilNumbered 12 = .ok (.if_icmp .lt 14, 3) := by decide +kernel
theorem dX5_pupilNumbered_15 : decode cX5_pupilNumbered 15 = .ok (.new 92, 3) := by decide +kernel
theorem dX5_pupilNumbered_18 : decode cX5_pupilNumbered 18 = .ok (.dup, 1) := by decide +kernel
theorem dX5_pupilNumbered_19 : decode cX5_pupilNumbered 19 = .ok (.ldc_w 257, 3) := by decide +kernel
theorem dX5_pupilNumbered_22 : decode cX5_pupilNumbered 22 = .ok (.invokespecial 96, 3) := by decide +kernel
theorem dX5_pupilNumbered_25 : decode cX5_pupilNumbered 25 = .ok (.athrow, 1) := by decide +kernel
theorem dX5_pupilNumbered_26 : decode cX5_pupilNumbered 26 = .ok (.aload_n 0, 1) := by decide +kernel
theorem dX5_pupilNumbered_27 : decode cX5_pupilNumbered 27 = .ok (.getfield 30, 3) := by decide +kernel
theorem dX5_pupilNumbered_30 : decode cX5_pupilNumbered 30 = .ok (.iload_n 1, 1) := by decide +kernel
theorem dX5_pupilNumbered_31 : decode cX5_pupilNumbered 31 = .ok (.invokevirtual 209, 3) := by decide +kernel
theorem dX5_pupilNumbered_34 : decode cX5_pupilNumbered 34 = .ok (.checkcast 108, 3) := by decide +kernel
theorem dX5_pupilNumbered_37 : decode cX5_pupilNumbered 37 = .ok (.areturn, 1) := by decide +kernel
set_option maxRecDepth 20000 in
theorem ggX5_scriptNumbered_Jx4a65c_size_8abf5 : GoodIn wsX5_scriptNumbered wsJx4a65c_size_8abf5 := goodIn_r _ [9, 10, 34, 35, 36] (by decide +kernel) (by decide +kernel)
set_option maxRecDepth 20000 in
theorem gX5_scriptNumbered_Jx4a65c_size_8abf5 : GoodIn wsX5_scriptNumbered (wsV RX5 78 RJx4a65c yJx4a65c_size_8abf5 wsJx4a65c_size_8abf5) := goodIn_app (goodIn_of _ (by decide +kernel)) ggX5_scriptNumbered_Jx4a65c_size_8abf5
set_option maxRecDepth 20000 in
theorem ggX5_scriptNumbered_Jx4a65c_get_915e3 : GoodIn wsX5_scriptNumbered wsJx4a65c_get_915e3 := goodIn_r _ [14, 10, 15, 16, 17, 18, 19, 20, 21, 22, 23, 24, 25, 8, 26, 27, 34, 35, 36] (by decide +kernel) (by decide +kernel)
set_option maxRecDepth 20000 in
theorem gX5_scriptNumbered_Jx4a65c_get_915e3 : GoodIn wsX5_scriptNumbered (wsV RX5 209 RJx4a65c yJx4a65c_get_915e3 wsJx4a65c_get_915e3) := goodIn_app (goodIn_of _ (by decide +kernel)) ggX5_scriptNumbered_Jx4a65c_get_915e3
theorem dX5_scriptNumbered_0 : decode cX5_scriptNumbered 0 = .ok (.iload_n 1, 1) := by decide +kernel
theorem dX5_scriptNumbered_1 : decode cX5_scriptNumbered 1 = .ok (.ifCond .lt 14, 3) := by decide +kernel
theorem dX5_scriptNumbered_4 : decode cX5_scriptNumbered 4 = .ok (.iload_n 1, 1) := by decide +kernel
theorem dX5_scriptNumbered_5 : decode cX5_scriptNumbered 5 = .ok (.aload_n 0, 1) := by decide +kernel
theorem dX5_scriptNumbered_6 : decode cX5_scriptNumbered 6 = .ok (.getfield 33, 3) := by decide +kernel
theorem dX5_scriptNumbered_9 : decode cX5_scriptNumbered 9 = .ok (.invokevirtual 78, 3) := by decide +kernel
theorem dX5_scriptNumbered_12 : decode cX5_scriptNumbered 12 = .ok (.if_icmp .lt 14, 3) := by decide +kernel
theorem dX5_scriptNumbered_15 : decode cX5_scriptNumbered 15 = .ok (.new 92, 3) := by decide +kernel
theorem dX5_scriptNumbered_18 : decode cX5_scriptNumbered 18 = .ok (.dup, 1) := by decide +kernel
theorem dX5_scriptNumbered_19 : decode cX5_scriptNumbered 19 = .ok (.ldc_w 259, 3) := by decide +kernel
theorem dX5_scriptNumbered_22 : decode cX5_scriptNumbered 22 = .ok (.invokespecial 96, 3) := by decide +kernel
theorem dX5_scriptNumbered_25 : decode cX5_scriptNumbered 25 = .ok (.athrow, 1) := by decide +kernel
theorem dX5_scriptNumbered_26 : decode cX5_scriptNumbered 26 = .ok (.aload_n 0, 1) := by decide +kernel
theorem dX5_scriptNumbered_27 : decode cX5_scriptNumbered 27 = .ok (.getfield 33, 3) := by decide +kernel
theorem dX5_scriptNumbered_30 : decode cX5_scriptNumbered 30 = .ok (.iload_n 1, 1) := by decide +kernel
theorem dX5_scriptNumbered_31 : decode cX5_scriptNumbered 31 = .ok (.invokevirtual 209, 3) := by decide +kernel
theorem dX5_scriptNumbered_34 : decode cX5_scriptNumbered 34 = .ok (.checkcast 147, 3) := by decide +kernel
theorem dX5_scriptNumbered_37 : decode cX5_scriptNumbered 37 = .ok (.areturn, 1) := by decide +kernel
theorem dX5_bandOf_0 : decode cX5_bandOf 0 = .ok (.iload_n 0, 1) := by decide +kernel
theorem dX5_bandOf_1 : decode cX5_bandOf 1 = .ok (.bipush 7, 2) := by decide +kernel
theorem dX5_bandOf_3 : decode cX5_bandOf 3 = .ok (.if_icmp .gt 5, 3) := by decide +kernel
theorem dX5_bandOf_6 : decode cX5_bandOf 6 = .ok (.iconst 0, 1) := by decide +kernel
theorem dX5_bandOf_7 : decode cX5_bandOf 7 = .ok (.ireturn, 1) := by decide +kernel
theorem dX5_bandOf_8 : decode cX5_bandOf 8 = .ok (.iload_n 0, 1) := by decide +kernel
theorem dX5_bandOf_9 : decode cX5_bandOf 9 = .ok (.bipush 11, 2) := by decide +kernel
theorem dX5_bandOf_11 : decode cX5_bandOf 11 = .ok (.if_icmp .gt 7, 3) := by decide +kernel
theorem dX5_bandOf_14 : decode cX5_bandOf 14 = .ok (.iconst 1, 1) := by decide +kernel
theorem dX5_bandOf_15 : decode cX5_bandOf 15 = .ok (.goto 4, 3) := by decide +kernel
theorem dX5_bandOf_18 : decode cX5_bandOf 18 = .ok (.iconst 2, 1) := by decide +kernel
theorem dX5_bandOf_19 : decode cX5_bandOf 19 = .ok (.ireturn, 1) := by decide +kernel
set_option maxRecDepth 20000 in
theorem ggX5_shownCount_Jx4a65c_size_8abf5 : GoodIn wsX5_shownCount wsJx4a65c_size_8abf5 := goodIn_r _ [8, 9, 40, 41, 42] (by decide +kernel) (by decide +kernel)
set_option maxRecDepth 20000 in
theorem gX5_shownCount_Jx4a65c_size_8abf5 : GoodIn wsX5_shownCount (wsV RX5 78 RJx4a65c yJx4a65c_size_8abf5 wsJx4a65c_size_8abf5) := goodIn_app (goodIn_of _ (by decide +kernel)) ggX5_shownCount_Jx4a65c_size_8abf5
set_option maxRecDepth 20000 in
theorem ggX5_shownCount_Jx4a65c_get_915e3 : GoodIn wsX5_shownCount wsJx4a65c_get_915e3 := goodIn_r _ [13, 9, 14, 15, 16, 17, 18, 19, 20, 21, 22, 23, 24, 7, 25, 26, 40, 41, 42] (by decide +kernel) (by decide +kernel)
set_option maxRecDepth 20000 in
theorem gX5_shownCount_Jx4a65c_get_915e3 : GoodIn wsX5_shownCount (wsV RX5 209 RJx4a65c yJx4a65c_get_915e3 wsJx4a65c_get_915e3) := goodIn_app (goodIn_of _ (by decide +kernel)) ggX5_shownCount_Jx4a65c_get_915e3
theorem dX5_shownCount_0 : decode cX5_shownCount 0 = .ok (.iconst 0, 1) := by decide +kernel
theorem dX5_shownCount_1 : decode cX5_shownCount 1 = .ok (.istore_n 1, 1) := by decide +kernel
theorem dX5_shownCount_2 : decode cX5_shownCount 2 = .ok (.iconst 0, 1) := by decide +kernel
theorem dX5_shownCount_3 : decode cX5_shownCount 3 = .ok (.istore_n 2, 1) := by decide +kernel
theorem dX5_shownCount_4 : decode cX5_shownCount 4 = .ok (.iload_n 2, 1) := by decide +kernel
theorem dX5_shownCount_5 : decode cX5_shownCount 5 = .ok (.aload_n 0, 1) := by decide +kernel
theorem dX5_shownCount_6 : decode cX5_shownCount 6 = .ok (.getfield 33, 3) := by decide +kernel
theorem dX5_shownCount_9 : decode cX5_shownCount 9 = .ok (.invokevirtual 78, 3) := by decide +kernel
theorem dX5_shownCount_12 : decode cX5_shownCount 12 = .ok (.if_icmp .ge 29, 3) := by decide +kernel
theorem dX5_shownCount_15 : decode cX5_shownCount 15 = .ok (.aload_n 0, 1) := by decide +kernel
theorem dX5_shownCount_16 : decode cX5_shownCount 16 = .ok (.getfield 33, 3) := by decide +kernel
theorem dX5_shownCount_19 : decode cX5_shownCount 19 = .ok (.iload_n 2, 1) := by decide +kernel
theorem dX5_shownCount_20 : decode cX5_shownCount 20 = .ok (.invokevirtual 209, 3) := by decide +kernel
theorem dX5_shownCount_23 : decode cX5_shownCount 23 = .ok (.checkcast 147, 3) := by decide +kernel
theorem dX5_shownCount_26 : decode cX5_shownCount 26 = .ok (.getfield 216, 3) := by decide +kernel
theorem dX5_shownCount_29 : decode cX5_shownCount 29 = .ok (.ifCond .eq 6, 3) := by decide +kernel
theorem dX5_shownCount_32 : decode cX5_shownCount 32 = .ok (.iinc 1 1, 3) := by decide +kernel
theorem dX5_shownCount_35 : decode cX5_shownCount 35 = .ok (.iinc 2 1, 3) := by decide +kernel
theorem dX5_shownCount_38 : decode cX5_shownCount 38 = .ok (.goto (-34), 3) := by decide +kernel
theorem dX5_shownCount_41 : decode cX5_shownCount 41 = .ok (.iload_n 1, 1) := by decide +kernel
theorem dX5_shownCount_42 : decode cX5_shownCount 42 = .ok (.ireturn, 1) := by decide +kernel
set_option maxRecDepth 20000 in
theorem ggX5_placeNow_Jx4a65c_size_8abf5 : GoodIn wsX5_placeNow wsJx4a65c_size_8abf5 := goodIn_r _ [7, 8, 70, 71, 72] (by decide +kernel) (by decide +kernel)
set_option maxRecDepth 20000 in
theorem gX5_placeNow_Jx4a65c_size_8abf5 : GoodIn wsX5_placeNow (wsV RX5 78 RJx4a65c yJx4a65c_size_8abf5 wsJx4a65c_size_8abf5) := goodIn_app (goodIn_of _ (by decide +kernel)) ggX5_placeNow_Jx4a65c_size_8abf5
set_option maxRecDepth 20000 in
theorem ggX5_placeNow_Jx4a65c_get_915e3 : GoodIn wsX5_placeNow wsJx4a65c_get_915e3 := goodIn_r _ [12, 8, 13, 14, 15, 16, 17, 18, 19, 20, 21, 22, 23, 6, 24, 25, 70, 71, 72] (by decide +kernel) (by decide +kernel)
set_option maxRecDepth 20000 in
theorem gX5_placeNow_Jx4a65c_get_915e3 : GoodIn wsX5_placeNow (wsV RX5 209 RJx4a65c yJx4a65c_get_915e3 wsJx4a65c_get_915e3) := goodIn_app (goodIn_of _ (by decide +kernel)) ggX5_placeNow_Jx4a65c_get_915e3
set_option maxRecDepth 20000 in
theorem ggX5_placeNow_X3_worthNow : GoodIn wsX5_placeNow wsX3_worthNow := goodIn_r _ [30, 31, 32, 33, 34, 35, 36, 37, 38, 39, 40, 41, 42, 43, 44, 45, 46, 47, 48, 49, 50, 51, 52, 53, 54, 55, 56, 29, 57, 58, 59, 60, 61, 62, 63, 73, 74, 75, 76, 77, 78, 79, 80, 81, 82] (by decide +kernel) (by decide +kernel)
set_option maxRecDepth 20000 in
theorem gX5_placeNow_X3_worthNow : GoodIn wsX5_placeNow (wsV RX5 239 RX3 yX3_worthNow wsX3_worthNow) := goodIn_app (goodIn_of _ (by decide +kernel)) ggX5_placeNow_X3_worthNow
theorem dX5_placeNow_0 : decode cX5_placeNow 0 = .ok (.iload_n 2, 1) := by decide +kernel
theorem dX5_placeNow_1 : decode cX5_placeNow 1 = .ok (.sipush (-9999), 3) := by decide +kernel
theorem dX5_placeNow_4 : decode cX5_placeNow 4 = .ok (.if_icmp .ne 5, 3) := by decide +kernel
theorem dX5_placeNow_7 : decode cX5_placeNow 7 = .ok (.iconst (-1), 1) := by decide +kernel
theorem dX5_placeNow_8 : decode cX5_placeNow 8 = .ok (.ireturn, 1) := by decide +kernel
theorem dX5_placeNow_9 : decode cX5_placeNow 9 = .ok (.iconst 1, 1) := by decide +kernel
theorem dX5_placeNow_10 : decode cX5_placeNow 10 = .ok (.istore_n 3, 1) := by decide +kernel
theorem dX5_placeNow_11 : decode cX5_placeNow 11 = .ok (.iconst 0, 1) := by decide +kernel
theorem dX5_placeNow_12 : decode cX5_placeNow 12 = .ok (.istore 4, 2) := by decide +kernel
theorem dX5_placeNow_14 : decode cX5_placeNow 14 = .ok (.iload 4, 2) := by decide +kernel
theorem dX5_placeNow_16 : decode cX5_placeNow 16 = .ok (.aload_n 0, 1) := by decide +kernel
theorem dX5_placeNow_17 : decode cX5_placeNow 17 = .ok (.getfield 33, 3) := by decide +kernel
theorem dX5_placeNow_20 : decode cX5_placeNow 20 = .ok (.invokevirtual 78, 3) := by decide +kernel
theorem dX5_placeNow_23 : decode cX5_placeNow 23 = .ok (.if_icmp .ge 47, 3) := by decide +kernel
theorem dX5_placeNow_26 : decode cX5_placeNow 26 = .ok (.aload_n 0, 1) := by decide +kernel
theorem dX5_placeNow_27 : decode cX5_placeNow 27 = .ok (.getfield 33, 3) := by decide +kernel
theorem dX5_placeNow_30 : decode cX5_placeNow 30 = .ok (.iload 4, 2) := by decide +kernel
theorem dX5_placeNow_32 : decode cX5_placeNow 32 = .ok (.invokevirtual 209, 3) := by decide +kernel
theorem dX5_placeNow_35 : decode cX5_placeNow 35 = .ok (.checkcast 147, 3) := by decide +kernel
theorem dX5_placeNow_38 : decode cX5_placeNow 38 = .ok (.invokevirtual 239, 3) := by decide +kernel
theorem dX5_placeNow_41 : decode cX5_placeNow 41 = .ok (.istore 5, 2) := by decide +kernel
theorem dX5_placeNow_43 : decode cX5_placeNow 43 = .ok (.iload 5, 2) := by decide +kernel
theorem dX5_placeNow_45 : decode cX5_placeNow 45 = .ok (.iload_n 2, 1) := by decide +kernel
theorem dX5_placeNow_46 : decode cX5_placeNow 46 = .ok (.if_icmp .gt 15, 3) := by decide +kernel
theorem dX5_placeNow_49 : decode cX5_placeNow 49 = .ok (.iload 5, 2) := by decide +kernel
theorem dX5_placeNow_51 : decode cX5_placeNow 51 = .ok (.iload_n 2, 1) := by decide +kernel
theorem dX5_placeNow_52 : decode cX5_placeNow 52 = .ok (.if_icmp .ne 12, 3) := by decide +kernel
theorem dX5_placeNow_55 : decode cX5_placeNow 55 = .ok (.iload 4, 2) := by decide +kernel
theorem dX5_placeNow_57 : decode cX5_placeNow 57 = .ok (.iload_n 1, 1) := by decide +kernel
theorem dX5_placeNow_58 : decode cX5_placeNow 58 = .ok (.if_icmp .ge 6, 3) := by decide +kernel
theorem dX5_placeNow_61 : decode cX5_placeNow 61 = .ok (.iinc 3 1, 3) := by decide +kernel
theorem dX5_placeNow_64 : decode cX5_placeNow 64 = .ok (.iinc 4 1, 3) := by decide +kernel
theorem dX5_placeNow_67 : decode cX5_placeNow 67 = .ok (.goto (-53), 3) := by decide +kernel
theorem dX5_placeNow_70 : decode cX5_placeNow 70 = .ok (.iload_n 3, 1) := by decide +kernel
theorem dX5_placeNow_71 : decode cX5_placeNow 71 = .ok (.ireturn, 1) := by decide +kernel
