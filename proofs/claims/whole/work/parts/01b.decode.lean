theorem dX5_init_0 : decode cX5_init 0 = .ok (.aload_n 0, 1) := by decide +kernel
theorem dX5_init_1 : decode cX5_init 1 = .ok (.invokespecial 1, 3) := by decide +kernel
theorem dX5_init_4 : decode cX5_init 4 = .ok (.aload_n 0, 1) := by decide +kernel
theorem dX5_init_5 : decode cX5_init 5 = .ok (.new 7, 3) := by decide +kernel
theorem dX5_init_8 : decode cX5_init 8 = .ok (.dup, 1) := by decide +kernel
theorem dX5_init_9 : decode cX5_init 9 = .ok (.invokespecial 9, 3) := by decide +kernel
theorem dX5_init_12 : decode cX5_init 12 = .ok (.putfield 10, 3) := by decide +kernel
theorem dX5_init_15 : decode cX5_init 15 = .ok (.aload_n 0, 1) := by decide +kernel
theorem dX5_init_16 : decode cX5_init 16 = .ok (.new 16, 3) := by decide +kernel
theorem dX5_init_19 : decode cX5_init 19 = .ok (.dup, 1) := by decide +kernel
theorem dX5_init_20 : decode cX5_init 20 = .ok (.invokespecial 18, 3) := by decide +kernel
theorem dX5_init_23 : decode cX5_init 23 = .ok (.putfield 19, 3) := by decide +kernel
theorem dX5_init_26 : decode cX5_init 26 = .ok (.aload_n 0, 1) := by decide +kernel
theorem dX5_init_27 : decode cX5_init 27 = .ok (.iconst 4, 1) := by decide +kernel
theorem dX5_init_28 : decode cX5_init 28 = .ok (.newarray .int, 2) := by decide +kernel
theorem dX5_init_30 : decode cX5_init 30 = .ok (.putfield 23, 3) := by decide +kernel
theorem dX5_init_33 : decode cX5_init 33 = .ok (.aload_n 0, 1) := by decide +kernel
theorem dX5_init_34 : decode cX5_init 34 = .ok (.new 27, 3) := by decide +kernel
theorem dX5_init_37 : decode cX5_init 37 = .ok (.dup, 1) := by decide +kernel
theorem dX5_init_38 : decode cX5_init 38 = .ok (.invokespecial 29, 3) := by decide +kernel
theorem dX5_init_41 : decode cX5_init 41 = .ok (.putfield 30, 3) := by decide +kernel
theorem dX5_init_44 : decode cX5_init 44 = .ok (.aload_n 0, 1) := by decide +kernel
theorem dX5_init_45 : decode cX5_init 45 = .ok (.new 34, 3) := by decide +kernel
theorem dX5_init_48 : decode cX5_init 48 = .ok (.dup, 1) := by decide +kernel
theorem dX5_init_49 : decode cX5_init 49 = .ok (.invokespecial 36, 3) := by decide +kernel
theorem dX5_init_52 : decode cX5_init 52 = .ok (.putfield 37, 3) := by decide +kernel
theorem dX5_init_55 : decode cX5_init 55 = .ok (.aload_n 0, 1) := by decide +kernel
theorem dX5_init_56 : decode cX5_init 56 = .ok (.new 34, 3) := by decide +kernel
theorem dX5_init_59 : decode cX5_init 59 = .ok (.dup, 1) := by decide +kernel
theorem dX5_init_60 : decode cX5_init 60 = .ok (.invokespecial 36, 3) := by decide +kernel
theorem dX5_init_63 : decode cX5_init 63 = .ok (.putfield 41, 3) := by decide +kernel
theorem dX5_init_66 : decode cX5_init 66 = .ok (.aload_n 0, 1) := by decide +kernel
theorem dX5_init_67 : decode cX5_init 67 = .ok (.new 44, 3) := by decide +kernel
theorem dX5_init_70 : decode cX5_init 70 = .ok (.dup, 1) := by decide +kernel
theorem dX5_init_71 : decode cX5_init 71 = .ok (.bipush 18, 2) := by decide +kernel
theorem dX5_init_73 : decode cX5_init 73 = .ok (.invokespecial 46, 3) := by decide +kernel
theorem dX5_init_76 : decode cX5_init 76 = .ok (.putfield 49, 3) := by decide +kernel
theorem dX5_init_79 : decode cX5_init 79 = .ok (.aload_n 0, 1) := by decide +kernel
theorem dX5_init_80 : decode cX5_init 80 = .ok (.new 44, 3) := by decide +kernel
theorem dX5_init_83 : decode cX5_init 83 = .ok (.dup, 1) := by decide +kernel
theorem dX5_init_84 : decode cX5_init 84 = .ok (.bipush 18, 2) := by decide +kernel
theorem dX5_init_86 : decode cX5_init 86 = .ok (.invokespecial 46, 3) := by decide +kernel
theorem dX5_init_89 : decode cX5_init 89 = .ok (.putfield 53, 3) := by decide +kernel
theorem dX5_init_92 : decode cX5_init 92 = .ok (.iconst 1, 1) := by decide +kernel
theorem dX5_init_93 : decode cX5_init 93 = .ok (.istore_n 1, 1) := by decide +kernel
theorem dX5_init_94 : decode cX5_init 94 = .ok (.iload_n 1, 1) := by decide +kernel
theorem dX5_init_95 : decode cX5_init 95 = .ok (.iconst 3, 1) := by decide +kernel
theorem dX5_init_96 : decode cX5_init 96 = .ok (.if_icmp .gt 17, 3) := by decide +kernel
theorem dX5_init_99 : decode cX5_init 99 = .ok (.aload_n 0, 1) := by decide +kernel
theorem dX5_init_100 : decode cX5_init 100 = .ok (.getfield 23, 3) := by decide +kernel
theorem dX5_init_103 : decode cX5_init 103 = .ok (.iload_n 1, 1) := by decide +kernel
theorem dX5_init_104 : decode cX5_init 104 = .ok (.bipush 6, 2) := by decide +kernel
theorem dX5_init_106 : decode cX5_init 106 = .ok (.iastore, 1) := by decide +kernel
theorem dX5_init_107 : decode cX5_init 107 = .ok (.iinc 1 1, 3) := by decide +kernel
theorem dX5_init_110 : decode cX5_init 110 = .ok (.goto (-16), 3) := by decide +kernel
theorem dX5_init_113 : decode cX5_init 113 = .ok (.return_, 1) := by decide +kernel
theorem dX5_order_0 : decode cX5_order 0 = .ok (.iload_n 1, 1) := by decide +kernel
theorem dX5_order_1 : decode cX5_order 1 = .ok (.invokestatic 56, 3) := by decide +kernel
theorem dX5_order_4 : decode cX5_order 4 = .ok (.ifCond .ne 5, 3) := by decide +kernel
theorem dX5_order_7 : decode cX5_order 7 = .ok (.iconst 0, 1) := by decide +kernel
theorem dX5_order_8 : decode cX5_order 8 = .ok (.ireturn, 1) := by decide +kernel
theorem dX5_order_9 : decode cX5_order 9 = .ok (.aload_n 0, 1) := by decide +kernel
theorem dX5_order_10 : decode cX5_order 10 = .ok (.getfield 19, 3) := by decide +kernel
theorem dX5_order_13 : decode cX5_order 13 = .ok (.iload_n 1, 1) := by decide +kernel
theorem dX5_order_14 : decode cX5_order 14 = .ok (.putfield 60, 3) := by decide +kernel
theorem dX5_order_17 : decode cX5_order 17 = .ok (.iconst 1, 1) := by decide +kernel
theorem dX5_order_18 : decode cX5_order 18 = .ok (.ireturn, 1) := by decide +kernel
theorem dX5_isLevel_0 : decode cX5_isLevel 0 = .ok (.iload_n 0, 1) := by decide +kernel
theorem dX5_isLevel_1 : decode cX5_isLevel 1 = .ok (.iconst 1, 1) := by decide +kernel
theorem dX5_isLevel_2 : decode cX5_isLevel 2 = .ok (.if_icmp .lt 12, 3) := by decide +kernel
theorem dX5_isLevel_5 : decode cX5_isLevel 5 = .ok (.iload_n 0, 1) := by decide +kernel
theorem dX5_isLevel_6 : decode cX5_isLevel 6 = .ok (.iconst 3, 1) := by decide +kernel
theorem dX5_isLevel_7 : decode cX5_isLevel 7 = .ok (.if_icmp .gt 7, 3) := by decide +kernel
theorem dX5_isLevel_10 : decode cX5_isLevel 10 = .ok (.iconst 1, 1) := by decide +kernel
theorem dX5_isLevel_11 : decode cX5_isLevel 11 = .ok (.goto 4, 3) := by decide +kernel
theorem dX5_isLevel_14 : decode cX5_isLevel 14 = .ok (.iconst 0, 1) := by decide +kernel
theorem dX5_isLevel_15 : decode cX5_isLevel 15 = .ok (.ireturn, 1) := by decide +kernel
theorem dX5_discount_0 : decode cX5_discount 0 = .ok (.iload_n 1, 1) := by decide +kernel
theorem dX5_discount_1 : decode cX5_discount 1 = .ok (.invokestatic 56, 3) := by decide +kernel
theorem dX5_discount_4 : decode cX5_discount 4 = .ok (.ifCond .eq 14, 3) := by decide +kernel
theorem dX5_discount_7 : decode cX5_discount 7 = .ok (.iload_n 2, 1) := by decide +kernel
theorem dX5_discount_8 : decode cX5_discount 8 = .ok (.iconst 1, 1) := by decide +kernel
theorem dX5_discount_9 : decode cX5_discount 9 = .ok (.if_icmp .lt 9, 3) := by decide +kernel
theorem dX5_discount_12 : decode cX5_discount 12 = .ok (.iload_n 2, 1) := by decide +kernel
theorem dX5_discount_13 : decode cX5_discount 13 = .ok (.bipush 8, 2) := by decide +kernel
theorem dX5_discount_15 : decode cX5_discount 15 = .ok (.if_icmp .le 5, 3) := by decide +kernel
theorem dX5_discount_18 : decode cX5_discount 18 = .ok (.iconst 0, 1) := by decide +kernel
theorem dX5_discount_19 : decode cX5_discount 19 = .ok (.ireturn, 1) := by decide +kernel
theorem dX5_discount_20 : decode cX5_discount 20 = .ok (.aload_n 0, 1) := by decide +kernel
theorem dX5_discount_21 : decode cX5_discount 21 = .ok (.getfield 23, 3) := by decide +kernel
theorem dX5_discount_24 : decode cX5_discount 24 = .ok (.iload_n 1, 1) := by decide +kernel
theorem dX5_discount_25 : decode cX5_discount 25 = .ok (.iload_n 2, 1) := by decide +kernel
theorem dX5_discount_26 : decode cX5_discount 26 = .ok (.iastore, 1) := by decide +kernel
theorem dX5_discount_27 : decode cX5_discount 27 = .ok (.iconst 1, 1) := by decide +kernel
theorem dX5_discount_28 : decode cX5_discount 28 = .ok (.ireturn, 1) := by decide +kernel
theorem dX5_word_0 : decode cX5_word 0 = .ok (.iload_n 1, 1) := by decide +kernel
theorem dX5_word_1 : decode cX5_word 1 = .ok (.ifCond .lt 23, 3) := by decide +kernel
theorem dX5_word_4 : decode cX5_word 4 = .ok (.iload_n 1, 1) := by decide +kernel
theorem dX5_word_5 : decode cX5_word 5 = .ok (.iconst 5, 1) := by decide +kernel
theorem dX5_word_6 : decode cX5_word 6 = .ok (.if_icmp .ge 18, 3) := by decide +kernel
theorem dX5_word_9 : decode cX5_word 9 = .ok (.aload_n 0, 1) := by decide +kernel
theorem dX5_word_10 : decode cX5_word 10 = .ok (.getfield 10, 3) := by decide +kernel
theorem dX5_word_13 : decode cX5_word 13 = .ok (.iload_n 1, 1) := by decide +kernel
theorem dX5_word_14 : decode cX5_word 14 = .ok (.invokevirtual 64, 3) := by decide +kernel
theorem dX5_word_17 : decode cX5_word 17 = .ok (.ifCond .eq 7, 3) := by decide +kernel
theorem dX5_word_20 : decode cX5_word 20 = .ok (.iconst 1, 1) := by decide +kernel
theorem dX5_word_21 : decode cX5_word 21 = .ok (.goto 4, 3) := by decide +kernel
theorem dX5_word_24 : decode cX5_word 24 = .ok (.iconst 0, 1) := by decide +kernel
theorem dX5_word_25 : decode cX5_word 25 = .ok (.ireturn, 1) := by decide +kernel
theorem dX5_learn_0 : decode cX5_learn 0 = .ok (.aload_n 0, 1) := by decide +kernel
theorem dX5_learn_1 : decode cX5_learn 1 = .ok (.getfield 10, 3) := by decide +kernel
theorem dX5_learn_4 : decode cX5_learn 4 = .ok (.getfield 67, 3) := by decide +kernel
theorem dX5_learn_7 : decode cX5_learn 7 = .ok (.bipush 8, 2) := by decide +kernel
theorem dX5_learn_9 : decode cX5_learn 9 = .ok (.if_icmp .ne 5, 3) := by decide +kernel
theorem dX5_learn_12 : decode cX5_learn 12 = .ok (.iconst (-1), 1) := by decide +kernel
theorem dX5_learn_13 : decode cX5_learn 13 = .ok (.ireturn, 1) := by decide +kernel
theorem dX5_learn_14 : decode cX5_learn 14 = .ok (.aload_n 0, 1) := by decide +kernel
theorem dX5_learn_15 : decode cX5_learn 15 = .ok (.iconst 1, 1) := by decide +kernel
theorem dX5_learn_16 : decode cX5_learn 16 = .ok (.invokevirtual 70, 3) := by decide +kernel
theorem dX5_learn_19 : decode cX5_learn 19 = .ok (.aload_n 0, 1) := by decide +kernel
theorem dX5_learn_20 : decode cX5_learn 20 = .ok (.getfield 10, 3) := by decide +kernel
theorem dX5_learn_23 : decode cX5_learn 23 = .ok (.invokevirtual 73, 3) := by decide +kernel
theorem dX5_learn_26 : decode cX5_learn 26 = .ok (.aload_n 0, 1) := by decide +kernel
theorem dX5_learn_27 : decode cX5_learn 27 = .ok (.getfield 10, 3) := by decide +kernel
theorem dX5_learn_30 : decode cX5_learn 30 = .ok (.getfield 67, 3) := by decide +kernel
theorem dX5_learn_33 : decode cX5_learn 33 = .ok (.ireturn, 1) := by decide +kernel
theorem dX5_countOpen_0 : decode cX5_countOpen 0 = .ok (.iconst 0, 1) := by decide +kernel
theorem dX5_countOpen_1 : decode cX5_countOpen 1 = .ok (.istore_n 2, 1) := by decide +kernel
theorem dX5_countOpen_2 : decode cX5_countOpen 2 = .ok (.iload_n 2, 1) := by decide +kernel
theorem dX5_countOpen_3 : decode cX5_countOpen 3 = .ok (.aload_n 0, 1) := by decide +kernel
theorem dX5_countOpen_4 : decode cX5_countOpen 4 = .ok (.getfield 10, 3) := by decide +kernel
theorem dX5_countOpen_7 : decode cX5_countOpen 7 = .ok (.invokevirtual 76, 3) := by decide +kernel
theorem dX5_countOpen_10 : decode cX5_countOpen 10 = .ok (.if_icmp .gt 51, 3) := by decide +kernel
theorem dX5_countOpen_13 : decode cX5_countOpen 13 = .ok (.aload_n 0, 1) := by decide +kernel
theorem dX5_countOpen_14 : decode cX5_countOpen 14 = .ok (.getfield 10, 3) := by decide +kernel
theorem dX5_countOpen_17 : decode cX5_countOpen 17 = .ok (.iload_n 2, 1) := by decide +kernel
theorem dX5_countOpen_18 : decode cX5_countOpen 18 = .ok (.iconst 2, 1) := by decide +kernel
theorem dX5_countOpen_19 : decode cX5_countOpen 19 = .ok (.isub, 1) := by decide +kernel
theorem dX5_countOpen_20 : decode cX5_countOpen 20 = .ok (.invokevirtual 149, 3) := by decide +kernel
theorem dX5_countOpen_23 : decode cX5_countOpen 23 = .ok (.istore_n 3, 1) := by decide +kernel
theorem dX5_countOpen_24 : decode cX5_countOpen 24 = .ok (.aload_n 0, 1) := by decide +kernel
theorem dX5_countOpen_25 : decode cX5_countOpen 25 = .ok (.getfield 10, 3) := by decide +kernel
theorem dX5_countOpen_28 : decode cX5_countOpen 28 = .ok (.iload_n 2, 1) := by decide +kernel
theorem dX5_countOpen_29 : decode cX5_countOpen 29 = .ok (.iconst 1, 1) := by decide +kernel
theorem dX5_countOpen_30 : decode cX5_countOpen 30 = .ok (.isub, 1) := by decide +kernel
theorem dX5_countOpen_31 : decode cX5_countOpen 31 = .ok (.invokevirtual 149, 3) := by decide +kernel
theorem dX5_countOpen_34 : decode cX5_countOpen 34 = .ok (.istore 4, 2) := by decide +kernel
theorem dX5_countOpen_36 : decode cX5_countOpen 36 = .ok (.aload_n 0, 1) := by decide +kernel
theorem dX5_countOpen_37 : decode cX5_countOpen 37 = .ok (.getfield 19, 3) := by decide +kernel
theorem dX5_countOpen_40 : decode cX5_countOpen 40 = .ok (.iload_n 3, 1) := by decide +kernel
theorem dX5_countOpen_41 : decode cX5_countOpen 41 = .ok (.iload 4, 2) := by decide +kernel
theorem dX5_countOpen_43 : decode cX5_countOpen 43 = .ok (.aload_n 0, 1) := by decide +kernel
theorem dX5_countOpen_44 : decode cX5_countOpen 44 = .ok (.getfield 10, 3) := by decide +kernel
theorem dX5_countOpen_47 : decode cX5_countOpen 47 = .ok (.iload_n 2, 1) := by decide +kernel
theorem dX5_countOpen_48 : decode cX5_countOpen 48 = .ok (.invokevirtual 149, 3) := by decide +kernel
theorem dX5_countOpen_51 : decode cX5_countOpen 51 = .ok (.iload_n 1, 1) := by decide +kernel
theorem dX5_countOpen_52 : decode cX5_countOpen 52 = .ok (.invokevirtual 152, 3) := by decide +kernel
theorem dX5_countOpen_55 : decode cX5_countOpen 55 = .ok (.iinc 2 1, 3) := by decide +kernel
theorem dX5_countOpen_58 : decode cX5_countOpen 58 = .ok (.goto (-56), 3) := by decide +kernel
theorem dX5_countOpen_61 : decode cX5_countOpen 61 = .ok (.return_, 1) := by decide +kernel
theorem dX5_contextOf_0 : decode cX5_contextOf 0 = .ok (.iload_n 0, 1) := by decide +kernel
theorem dX5_contextOf_1 : decode cX5_contextOf 1 = .ok (.iconst 1, 1) := by decide +kernel
theorem dX5_contextOf_2 : decode cX5_contextOf 2 = .ok (.if_icmp .ne 5, 3) := by decide +kernel
theorem dX5_contextOf_5 : decode cX5_contextOf 5 = .ok (.iconst 0, 1) := by decide +kernel
theorem dX5_contextOf_6 : decode cX5_contextOf 6 = .ok (.ireturn, 1) := by decide +kernel
theorem dX5_contextOf_7 : decode cX5_contextOf 7 = .ok (.iload_n 0, 1) := by decide +kernel
theorem dX5_contextOf_8 : decode cX5_contextOf 8 = .ok (.iconst 2, 1) := by decide +kernel
theorem dX5_contextOf_9 : decode cX5_contextOf 9 = .ok (.if_icmp .ne 7, 3) := by decide +kernel
theorem dX5_contextOf_12 : decode cX5_contextOf 12 = .ok (.iload_n 2, 1) := by decide +kernel
theorem dX5_contextOf_13 : decode cX5_contextOf 13 = .ok (.goto 9, 3) := by decide +kernel
theorem dX5_contextOf_16 : decode cX5_contextOf 16 = .ok (.iload_n 1, 1) := by decide +kernel
theorem dX5_contextOf_17 : decode cX5_contextOf 17 = .ok (.bipush 7, 2) := by decide +kernel
theorem dX5_contextOf_19 : decode cX5_contextOf 19 = .ok (.imul, 1) := by decide +kernel
theorem dX5_contextOf_20 : decode cX5_contextOf 20 = .ok (.iload_n 2, 1) := by decide +kernel
theorem dX5_contextOf_21 : decode cX5_contextOf 21 = .ok (.iadd, 1) := by decide +kernel
theorem dX5_contextOf_22 : decode cX5_contextOf 22 = .ok (.ireturn, 1) := by decide +kernel
theorem dX5_erase_0 : decode cX5_erase 0 = .ok (.aload_n 0, 1) := by decide +kernel
theorem dX5_erase_1 : decode cX5_erase 1 = .ok (.getfield 10, 3) := by decide +kernel
theorem dX5_erase_4 : decode cX5_erase 4 = .ok (.invokevirtual 76, 3) := by decide +kernel
theorem dX5_erase_7 : decode cX5_erase 7 = .ok (.istore_n 1, 1) := by decide +kernel
theorem dX5_erase_8 : decode cX5_erase 8 = .ok (.aload_n 0, 1) := by decide +kernel
theorem dX5_erase_9 : decode cX5_erase 9 = .ok (.getfield 10, 3) := by decide +kernel
theorem dX5_erase_12 : decode cX5_erase 12 = .ok (.invokevirtual 80, 3) := by decide +kernel
theorem dX5_erase_15 : decode cX5_erase 15 = .ok (.iload_n 1, 1) := by decide +kernel
theorem dX5_erase_16 : decode cX5_erase 16 = .ok (.ireturn, 1) := by decide +kernel
theorem dX5_forget_0 : decode cX5_forget 0 = .ok (.aload_n 0, 1) := by decide +kernel
theorem dX5_forget_1 : decode cX5_forget 1 = .ok (.getfield 10, 3) := by decide +kernel
theorem dX5_forget_4 : decode cX5_forget 4 = .ok (.getfield 67, 3) := by decide +kernel
theorem dX5_forget_7 : decode cX5_forget 7 = .ok (.ifCond .ne 5, 3) := by decide +kernel
theorem dX5_forget_10 : decode cX5_forget 10 = .ok (.iconst (-1), 1) := by decide +kernel
theorem dX5_forget_11 : decode cX5_forget 11 = .ok (.ireturn, 1) := by decide +kernel
theorem dX5_forget_12 : decode cX5_forget 12 = .ok (.aload_n 0, 1) := by decide +kernel
theorem dX5_forget_13 : decode cX5_forget 13 = .ok (.getfield 10, 3) := by decide +kernel
theorem dX5_forget_16 : decode cX5_forget 16 = .ok (.invokevirtual 83, 3) := by decide +kernel
theorem dX5_forget_19 : decode cX5_forget 19 = .ok (.aload_n 0, 1) := by decide +kernel
theorem dX5_forget_20 : decode cX5_forget 20 = .ok (.iconst (-1), 1) := by decide +kernel
theorem dX5_forget_21 : decode cX5_forget 21 = .ok (.invokevirtual 70, 3) := by decide +kernel
theorem dX5_forget_24 : decode cX5_forget 24 = .ok (.aload_n 0, 1) := by decide +kernel
theorem dX5_forget_25 : decode cX5_forget 25 = .ok (.getfield 10, 3) := by decide +kernel
theorem dX5_forget_28 : decode cX5_forget 28 = .ok (.invokevirtual 76, 3) := by decide +kernel
theorem dX5_forget_31 : decode cX5_forget 31 = .ok (.ireturn, 1) := by decide +kernel
theorem dX5_count_0 : decode cX5_count 0 = .ok (.iload_n 1, 1) := by decide +kernel
theorem dX5_count_1 : decode cX5_count 1 = .ok (.iload_n 2, 1) := by decide +kernel
theorem dX5_count_2 : decode cX5_count 2 = .ok (.iload_n 3, 1) := by decide +kernel
theorem dX5_count_3 : decode cX5_count 3 = .ok (.invokestatic 86, 3) := by decide +kernel
theorem dX5_count_6 : decode cX5_count 6 = .ok (.ifCond .eq 11, 3) := by decide +kernel
theorem dX5_count_9 : decode cX5_count 9 = .ok (.iload 4, 2) := by decide +kernel
theorem dX5_count_11 : decode cX5_count 11 = .ok (.invokestatic 90, 3) := by decide +kernel
theorem dX5_count_14 : decode cX5_count 14 = .ok (.ifCond .ne 5, 3) := by decide +kernel
theorem dX5_count_17 : decode cX5_count 17 = .ok (.iconst 0, 1) := by decide +kernel
theorem dX5_count_18 : decode cX5_count 18 = .ok (.ireturn, 1) := by decide +kernel
theorem dX5_count_19 : decode cX5_count 19 = .ok (.aload_n 0, 1) := by decide +kernel
theorem dX5_count_20 : decode cX5_count 20 = .ok (.getfield 19, 3) := by decide +kernel
theorem dX5_count_23 : decode cX5_count 23 = .ok (.iload_n 1, 1) := by decide +kernel
theorem dX5_count_24 : decode cX5_count 24 = .ok (.iload_n 1, 1) := by decide +kernel
theorem dX5_count_25 : decode cX5_count 25 = .ok (.iload_n 2, 1) := by decide +kernel
theorem dX5_count_26 : decode cX5_count 26 = .ok (.iload_n 3, 1) := by decide +kernel
theorem dX5_count_27 : decode cX5_count 27 = .ok (.invokestatic 93, 3) := by decide +kernel
theorem dX5_count_30 : decode cX5_count 30 = .ok (.bipush 7, 2) := by decide +kernel
theorem dX5_count_32 : decode cX5_count 32 = .ok (.imul, 1) := by decide +kernel
theorem dX5_count_33 : decode cX5_count 33 = .ok (.iload 4, 2) := by decide +kernel
theorem dX5_count_35 : decode cX5_count 35 = .ok (.iadd, 1) := by decide +kernel
theorem dX5_count_36 : decode cX5_count 36 = .ok (.invokevirtual 97, 3) := by decide +kernel
theorem dX5_count_39 : decode cX5_count 39 = .ok (.ireturn, 1) := by decide +kernel
theorem dX5_isContext_0 : decode cX5_isContext 0 = .ok (.iload_n 0, 1) := by decide +kernel
theorem dX5_isContext_1 : decode cX5_isContext 1 = .ok (.invokestatic 56, 3) := by decide +kernel
theorem dX5_isContext_4 : decode cX5_isContext 4 = .ok (.ifCond .eq 31, 3) := by decide +kernel
theorem dX5_isContext_7 : decode cX5_isContext 7 = .ok (.iload_n 0, 1) := by decide +kernel
theorem dX5_isContext_8 : decode cX5_isContext 8 = .ok (.iconst 2, 1) := by decide +kernel
theorem dX5_isContext_9 : decode cX5_isContext 9 = .ok (.if_icmp .lt 10, 3) := by decide +kernel
theorem dX5_isContext_12 : decode cX5_isContext 12 = .ok (.iload_n 2, 1) := by decide +kernel
theorem dX5_isContext_13 : decode cX5_isContext 13 = .ok (.invokestatic 90, 3) := by decide +kernel
theorem dX5_isContext_16 : decode cX5_isContext 16 = .ok (.ifCond .eq 19, 3) := by decide +kernel
theorem dX5_isContext_19 : decode cX5_isContext 19 = .ok (.iload_n 0, 1) := by decide +kernel
theorem dX5_isContext_20 : decode cX5_isContext 20 = .ok (.iconst 3, 1) := by decide +kernel
theorem dX5_isContext_21 : decode cX5_isContext 21 = .ok (.if_icmp .lt 10, 3) := by decide +kernel
theorem dX5_isContext_24 : decode cX5_isContext 24 = .ok (.iload_n 1, 1) := by decide +kernel
theorem dX5_isContext_25 : decode cX5_isContext 25 = .ok (.invokestatic 90, 3) := by decide +kernel
theorem dX5_isContext_28 : decode cX5_isContext 28 = .ok (.ifCond .eq 7, 3) := by decide +kernel
theorem dX5_isContext_31 : decode cX5_isContext 31 = .ok (.iconst 1, 1) := by decide +kernel
theorem dX5_isContext_32 : decode cX5_isContext 32 = .ok (.goto 4, 3) := by decide +kernel
theorem dX5_isContext_35 : decode cX5_isContext 35 = .ok (.iconst 0, 1) := by decide +kernel
theorem dX5_isContext_36 : decode cX5_isContext 36 = .ok (.ireturn, 1) := by decide +kernel
theorem dX5_isSymbol_0 : decode cX5_isSymbol 0 = .ok (.iload_n 0, 1) := by decide +kernel
theorem dX5_isSymbol_1 : decode cX5_isSymbol 1 = .ok (.ifCond .lt 13, 3) := by decide +kernel
theorem dX5_isSymbol_4 : decode cX5_isSymbol 4 = .ok (.iload_n 0, 1) := by decide +kernel
theorem dX5_isSymbol_5 : decode cX5_isSymbol 5 = .ok (.bipush 7, 2) := by decide +kernel
theorem dX5_isSymbol_7 : decode cX5_isSymbol 7 = .ok (.if_icmp .ge 7, 3) := by decide +kernel
theorem dX5_isSymbol_10 : decode cX5_isSymbol 10 = .ok (.iconst 1, 1) := by decide +kernel
theorem dX5_isSymbol_11 : decode cX5_isSymbol 11 = .ok (.goto 4, 3) := by decide +kernel
theorem dX5_isSymbol_14 : decode cX5_isSymbol 14 = .ok (.iconst 0, 1) := by decide +kernel
theorem dX5_isSymbol_15 : decode cX5_isSymbol 15 = .ok (.ireturn, 1) := by decide +kernel
theorem dX5_rowsOf_0 : decode cX5_rowsOf 0 = .ok (.iload_n 0, 1) := by decide +kernel
theorem dX5_rowsOf_1 : decode cX5_rowsOf 1 = .ok (.iconst 1, 1) := by decide +kernel
theorem dX5_rowsOf_2 : decode cX5_rowsOf 2 = .ok (.if_icmp .ne 6, 3) := by decide +kernel
theorem dX5_rowsOf_5 : decode cX5_rowsOf 5 = .ok (.bipush 7, 2) := by decide +kernel
theorem dX5_rowsOf_7 : decode cX5_rowsOf 7 = .ok (.ireturn, 1) := by decide +kernel
theorem dX5_rowsOf_8 : decode cX5_rowsOf 8 = .ok (.iload_n 0, 1) := by decide +kernel
theorem dX5_rowsOf_9 : decode cX5_rowsOf 9 = .ok (.iconst 2, 1) := by decide +kernel
theorem dX5_rowsOf_10 : decode cX5_rowsOf 10 = .ok (.if_icmp .ne 8, 3) := by decide +kernel
theorem dX5_rowsOf_13 : decode cX5_rowsOf 13 = .ok (.bipush 49, 2) := by decide +kernel
theorem dX5_rowsOf_15 : decode cX5_rowsOf 15 = .ok (.goto 6, 3) := by decide +kernel
theorem dX5_rowsOf_18 : decode cX5_rowsOf 18 = .ok (.sipush 343, 3) := by decide +kernel
theorem dX5_rowsOf_21 : decode cX5_rowsOf 21 = .ok (.ireturn, 1) := by decide +kernel
theorem dX5_total_0 : decode cX5_total 0 = .ok (.iload_n 1, 1) := by decide +kernel
theorem dX5_total_1 : decode cX5_total 1 = .ok (.iload_n 2, 1) := by decide +kernel
theorem dX5_total_2 : decode cX5_total 2 = .ok (.iload_n 3, 1) := by decide +kernel
theorem dX5_total_3 : decode cX5_total 3 = .ok (.invokestatic 86, 3) := by decide +kernel
theorem dX5_total_6 : decode cX5_total 6 = .ok (.ifCond .eq 20, 3) := by decide +kernel
theorem dX5_total_9 : decode cX5_total 9 = .ok (.aload_n 0, 1) := by decide +kernel
theorem dX5_total_10 : decode cX5_total 10 = .ok (.getfield 19, 3) := by decide +kernel
theorem dX5_total_13 : decode cX5_total 13 = .ok (.iload_n 1, 1) := by decide +kernel
theorem dX5_total_14 : decode cX5_total 14 = .ok (.iload_n 1, 1) := by decide +kernel
theorem dX5_total_15 : decode cX5_total 15 = .ok (.iload_n 2, 1) := by decide +kernel
theorem dX5_total_16 : decode cX5_total 16 = .ok (.iload_n 3, 1) := by decide +kernel
theorem dX5_total_17 : decode cX5_total 17 = .ok (.invokestatic 93, 3) := by decide +kernel
theorem dX5_total_20 : decode cX5_total 20 = .ok (.invokevirtual 101, 3) := by decide +kernel
theorem dX5_total_23 : decode cX5_total 23 = .ok (.goto 4, 3) := by decide +kernel
theorem dX5_total_26 : decode cX5_total 26 = .ok (.iconst 0, 1) := by decide +kernel
theorem dX5_total_27 : decode cX5_total 27 = .ok (.ireturn, 1) := by decide +kernel
theorem dX5_kinds_0 : decode cX5_kinds 0 = .ok (.iload_n 1, 1) := by decide +kernel
theorem dX5_kinds_1 : decode cX5_kinds 1 = .ok (.iload_n 2, 1) := by decide +kernel
theorem dX5_kinds_2 : decode cX5_kinds 2 = .ok (.iload_n 3, 1) := by decide +kernel
theorem dX5_kinds_3 : decode cX5_kinds 3 = .ok (.invokestatic 86, 3) := by decide +kernel
theorem dX5_kinds_6 : decode cX5_kinds 6 = .ok (.ifCond .eq 20, 3) := by decide +kernel
theorem dX5_kinds_9 : decode cX5_kinds 9 = .ok (.aload_n 0, 1) := by decide +kernel
theorem dX5_kinds_10 : decode cX5_kinds 10 = .ok (.getfield 19, 3) := by decide +kernel
theorem dX5_kinds_13 : decode cX5_kinds 13 = .ok (.iload_n 1, 1) := by decide +kernel
theorem dX5_kinds_14 : decode cX5_kinds 14 = .ok (.iload_n 1, 1) := by decide +kernel
theorem dX5_kinds_15 : decode cX5_kinds 15 = .ok (.iload_n 2, 1) := by decide +kernel
theorem dX5_kinds_16 : decode cX5_kinds 16 = .ok (.iload_n 3, 1) := by decide +kernel
theorem dX5_kinds_17 : decode cX5_kinds 17 = .ok (.invokestatic 93, 3) := by decide +kernel
theorem dX5_kinds_20 : decode cX5_kinds 20 = .ok (.invokevirtual 104, 3) := by decide +kernel
theorem dX5_kinds_23 : decode cX5_kinds 23 = .ok (.goto 4, 3) := by decide +kernel
theorem dX5_kinds_26 : decode cX5_kinds 26 = .ok (.iconst 0, 1) := by decide +kernel
theorem dX5_kinds_27 : decode cX5_kinds 27 = .ok (.ireturn, 1) := by decide +kernel
theorem dX5_grams_0 : decode cX5_grams 0 = .ok (.iload_n 1, 1) := by decide +kernel
theorem dX5_grams_1 : decode cX5_grams 1 = .ok (.invokestatic 56, 3) := by decide +kernel
theorem dX5_grams_4 : decode cX5_grams 4 = .ok (.ifCond .ne 5, 3) := by decide +kernel
theorem dX5_grams_7 : decode cX5_grams 7 = .ok (.iconst (-1), 1) := by decide +kernel
theorem dX5_grams_8 : decode cX5_grams 8 = .ok (.ireturn, 1) := by decide +kernel
theorem dX5_grams_9 : decode cX5_grams 9 = .ok (.iconst 0, 1) := by decide +kernel
theorem dX5_grams_10 : decode cX5_grams 10 = .ok (.istore_n 2, 1) := by decide +kernel
theorem dX5_grams_11 : decode cX5_grams 11 = .ok (.iconst 0, 1) := by decide +kernel
theorem dX5_grams_12 : decode cX5_grams 12 = .ok (.istore_n 3, 1) := by decide +kernel
theorem dX5_grams_13 : decode cX5_grams 13 = .ok (.iload_n 3, 1) := by decide +kernel
theorem dX5_grams_14 : decode cX5_grams 14 = .ok (.iload_n 1, 1) := by decide +kernel
theorem dX5_grams_15 : decode cX5_grams 15 = .ok (.invokestatic 107, 3) := by decide +kernel
theorem dX5_grams_18 : decode cX5_grams 18 = .ok (.if_icmp .ge 24, 3) := by decide +kernel
theorem dX5_grams_21 : decode cX5_grams 21 = .ok (.aload_n 0, 1) := by decide +kernel
theorem dX5_grams_22 : decode cX5_grams 22 = .ok (.getfield 19, 3) := by decide +kernel
theorem dX5_grams_25 : decode cX5_grams 25 = .ok (.iload_n 1, 1) := by decide +kernel
theorem dX5_grams_26 : decode cX5_grams 26 = .ok (.iload_n 3, 1) := by decide +kernel
theorem dX5_grams_27 : decode cX5_grams 27 = .ok (.invokevirtual 97, 3) := by decide +kernel
theorem dX5_grams_30 : decode cX5_grams 30 = .ok (.ifCond .le 6, 3) := by decide +kernel
theorem dX5_grams_33 : decode cX5_grams 33 = .ok (.iinc 2 1, 3) := by decide +kernel
theorem dX5_grams_36 : decode cX5_grams 36 = .ok (.iinc 3 1, 3) := by decide +kernel
theorem dX5_grams_39 : decode cX5_grams 39 = .ok (.goto (-26), 3) := by decide +kernel
theorem dX5_grams_42 : decode cX5_grams 42 = .ok (.iload_n 2, 1) := by decide +kernel
theorem dX5_grams_43 : decode cX5_grams 43 = .ok (.ireturn, 1) := by decide +kernel
theorem dX5_gram_0 : decode cX5_gram 0 = .ok (.iload_n 1, 1) := by decide +kernel
theorem dX5_gram_1 : decode cX5_gram 1 = .ok (.invokestatic 56, 3) := by decide +kernel
theorem dX5_gram_4 : decode cX5_gram 4 = .ok (.ifCond .eq 7, 3) := by decide +kernel
theorem dX5_gram_7 : decode cX5_gram 7 = .ok (.iload_n 2, 1) := by decide +kernel
theorem dX5_gram_8 : decode cX5_gram 8 = .ok (.ifCond .ge 5, 3) := by decide +kernel
theorem dX5_gram_11 : decode cX5_gram 11 = .ok (.iconst (-1), 1) := by decide +kernel
theorem dX5_gram_12 : decode cX5_gram 12 = .ok (.ireturn, 1) := by decide +kernel
theorem dX5_gram_13 : decode cX5_gram 13 = .ok (.iconst 0, 1) := by decide +kernel
theorem dX5_gram_14 : decode cX5_gram 14 = .ok (.istore_n 3, 1) := by decide +kernel
theorem dX5_gram_15 : decode cX5_gram 15 = .ok (.iconst 0, 1) := by decide +kernel
theorem dX5_gram_16 : decode cX5_gram 16 = .ok (.istore 4, 2) := by decide +kernel
theorem dX5_gram_18 : decode cX5_gram 18 = .ok (.iload 4, 2) := by decide +kernel
theorem dX5_gram_20 : decode cX5_gram 20 = .ok (.iload_n 1, 1) := by decide +kernel
theorem dX5_gram_21 : decode cX5_gram 21 = .ok (.invokestatic 107, 3) := by decide +kernel
theorem dX5_gram_24 : decode cX5_gram 24 = .ok (.if_icmp .ge 33, 3) := by decide +kernel
theorem dX5_gram_27 : decode cX5_gram 27 = .ok (.aload_n 0, 1) := by decide +kernel
theorem dX5_gram_28 : decode cX5_gram 28 = .ok (.getfield 19, 3) := by decide +kernel
theorem dX5_gram_31 : decode cX5_gram 31 = .ok (.iload_n 1, 1) := by decide +kernel
theorem dX5_gram_32 : decode cX5_gram 32 = .ok (.iload 4, 2) := by decide +kernel
theorem dX5_gram_34 : decode cX5_gram 34 = .ok (.invokevirtual 97, 3) := by decide +kernel
theorem dX5_gram_37 : decode cX5_gram 37 = .ok (.ifCond .le 14, 3) := by decide +kernel
theorem dX5_gram_40 : decode cX5_gram 40 = .ok (.iload_n 3, 1) := by decide +kernel
theorem dX5_gram_41 : decode cX5_gram 41 = .ok (.iload_n 2, 1) := by decide +kernel
theorem dX5_gram_42 : decode cX5_gram 42 = .ok (.if_icmp .ne 6, 3) := by decide +kernel
theorem dX5_gram_45 : decode cX5_gram 45 = .ok (.iload 4, 2) := by decide +kernel
theorem dX5_gram_47 : decode cX5_gram 47 = .ok (.ireturn, 1) := by decide +kernel
theorem dX5_gram_48 : decode cX5_gram 48 = .ok (.iinc 3 1, 3) := by decide +kernel
theorem dX5_gram_51 : decode cX5_gram 51 = .ok (.iinc 4 1, 3) := by decide +kernel
theorem dX5_gram_54 : decode cX5_gram 54 = .ok (.goto (-36), 3) := by decide +kernel
theorem dX5_gram_57 : decode cX5_gram 57 = .ok (.iconst (-1), 1) := by decide +kernel
theorem dX5_gram_58 : decode cX5_gram 58 = .ok (.ireturn, 1) := by decide +kernel
theorem dX5_top_0 : decode cX5_top 0 = .ok (.iload_n 1, 1) := by decide +kernel
theorem dX5_top_1 : decode cX5_top 1 = .ok (.iload_n 2, 1) := by decide +kernel
theorem dX5_top_2 : decode cX5_top 2 = .ok (.iload_n 3, 1) := by decide +kernel
theorem dX5_top_3 : decode cX5_top 3 = .ok (.invokestatic 111, 3) := by decide +kernel
theorem dX5_top_6 : decode cX5_top 6 = .ok (.ifCond .ne 7, 3) := by decide +kernel
theorem dX5_top_9 : decode cX5_top 9 = .ok (.ldc2_w 114, 3) := by decide +kernel
theorem dX5_top_12 : decode cX5_top 12 = .ok (.lreturn, 1) := by decide +kernel
theorem dX5_top_13 : decode cX5_top 13 = .ok (.aload_n 0, 1) := by decide +kernel
theorem dX5_top_14 : decode cX5_top 14 = .ok (.getfield 30, 3) := by decide +kernel
theorem dX5_top_17 : decode cX5_top 17 = .ok (.aload_n 0, 1) := by decide +kernel
theorem dX5_top_18 : decode cX5_top 18 = .ok (.getfield 19, 3) := by decide +kernel
theorem dX5_top_21 : decode cX5_top 21 = .ok (.aload_n 0, 1) := by decide +kernel
theorem dX5_top_22 : decode cX5_top 22 = .ok (.getfield 23, 3) := by decide +kernel
theorem dX5_top_25 : decode cX5_top 25 = .ok (.iload_n 1, 1) := by decide +kernel
theorem dX5_top_26 : decode cX5_top 26 = .ok (.iload_n 2, 1) := by decide +kernel
theorem dX5_top_27 : decode cX5_top 27 = .ok (.iload_n 3, 1) := by decide +kernel
theorem dX5_top_28 : decode cX5_top 28 = .ok (.invokevirtual 116, 3) := by decide +kernel
theorem dX5_top_31 : decode cX5_top 31 = .ok (.aload_n 0, 1) := by decide +kernel
theorem dX5_top_32 : decode cX5_top 32 = .ok (.getfield 30, 3) := by decide +kernel
theorem dX5_top_35 : decode cX5_top 35 = .ok (.getfield 120, 3) := by decide +kernel
theorem dX5_top_38 : decode cX5_top 38 = .ok (.lreturn, 1) := by decide +kernel
theorem dX5_isAsked_0 : decode cX5_isAsked 0 = .ok (.iload_n 0, 1) := by decide +kernel
theorem dX5_isAsked_1 : decode cX5_isAsked 1 = .ok (.invokestatic 90, 3) := by decide +kernel
theorem dX5_isAsked_4 : decode cX5_isAsked 4 = .ok (.ifCond .eq 24, 3) := by decide +kernel
theorem dX5_isAsked_7 : decode cX5_isAsked 7 = .ok (.iload_n 1, 1) := by decide +kernel
theorem dX5_isAsked_8 : decode cX5_isAsked 8 = .ok (.invokestatic 90, 3) := by decide +kernel
theorem dX5_isAsked_11 : decode cX5_isAsked 11 = .ok (.ifCond .eq 17, 3) := by decide +kernel
theorem dX5_isAsked_14 : decode cX5_isAsked 14 = .ok (.iload_n 2, 1) := by decide +kernel
theorem dX5_isAsked_15 : decode cX5_isAsked 15 = .ok (.ifCond .lt 13, 3) := by decide +kernel
theorem dX5_isAsked_18 : decode cX5_isAsked 18 = .ok (.iload_n 2, 1) := by decide +kernel
theorem dX5_isAsked_19 : decode cX5_isAsked 19 = .ok (.bipush 6, 2) := by decide +kernel
theorem dX5_isAsked_21 : decode cX5_isAsked 21 = .ok (.if_icmp .ge 7, 3) := by decide +kernel
theorem dX5_isAsked_24 : decode cX5_isAsked 24 = .ok (.iconst 1, 1) := by decide +kernel
theorem dX5_isAsked_25 : decode cX5_isAsked 25 = .ok (.goto 4, 3) := by decide +kernel
theorem dX5_isAsked_28 : decode cX5_isAsked 28 = .ok (.iconst 0, 1) := by decide +kernel
theorem dX5_isAsked_29 : decode cX5_isAsked 29 = .ok (.ireturn, 1) := by decide +kernel
theorem dX5_bottom_0 : decode cX5_bottom 0 = .ok (.iload_n 1, 1) := by decide +kernel
theorem dX5_bottom_1 : decode cX5_bottom 1 = .ok (.iload_n 2, 1) := by decide +kernel
theorem dX5_bottom_2 : decode cX5_bottom 2 = .ok (.iload_n 3, 1) := by decide +kernel
theorem dX5_bottom_3 : decode cX5_bottom 3 = .ok (.invokestatic 111, 3) := by decide +kernel
theorem dX5_bottom_6 : decode cX5_bottom 6 = .ok (.ifCond .ne 7, 3) := by decide +kernel
theorem dX5_bottom_9 : decode cX5_bottom 9 = .ok (.ldc2_w 114, 3) := by decide +kernel
theorem dX5_bottom_12 : decode cX5_bottom 12 = .ok (.lreturn, 1) := by decide +kernel
theorem dX5_bottom_13 : decode cX5_bottom 13 = .ok (.aload_n 0, 1) := by decide +kernel
theorem dX5_bottom_14 : decode cX5_bottom 14 = .ok (.getfield 30, 3) := by decide +kernel
theorem dX5_bottom_17 : decode cX5_bottom 17 = .ok (.aload_n 0, 1) := by decide +kernel
theorem dX5_bottom_18 : decode cX5_bottom 18 = .ok (.getfield 19, 3) := by decide +kernel
theorem dX5_bottom_21 : decode cX5_bottom 21 = .ok (.aload_n 0, 1) := by decide +kernel
theorem dX5_bottom_22 : decode cX5_bottom 22 = .ok (.getfield 23, 3) := by decide +kernel
theorem dX5_bottom_25 : decode cX5_bottom 25 = .ok (.iload_n 1, 1) := by decide +kernel
theorem dX5_bottom_26 : decode cX5_bottom 26 = .ok (.iload_n 2, 1) := by decide +kernel
theorem dX5_bottom_27 : decode cX5_bottom 27 = .ok (.iload_n 3, 1) := by decide +kernel
theorem dX5_bottom_28 : decode cX5_bottom 28 = .ok (.invokevirtual 116, 3) := by decide +kernel
theorem dX5_bottom_31 : decode cX5_bottom 31 = .ok (.aload_n 0, 1) := by decide +kernel
theorem dX5_bottom_32 : decode cX5_bottom 32 = .ok (.getfield 30, 3) := by decide +kernel
theorem dX5_bottom_35 : decode cX5_bottom 35 = .ok (.getfield 124, 3) := by decide +kernel
theorem dX5_bottom_38 : decode cX5_bottom 38 = .ok (.lreturn, 1) := by decide +kernel
theorem dX5_likeliest_0 : decode cX5_likeliest 0 = .ok (.iload_n 1, 1) := by decide +kernel
theorem dX5_likeliest_1 : decode cX5_likeliest 1 = .ok (.invokestatic 90, 3) := by decide +kernel
theorem dX5_likeliest_4 : decode cX5_likeliest 4 = .ok (.ifCond .eq 10, 3) := by decide +kernel
theorem dX5_likeliest_7 : decode cX5_likeliest 7 = .ok (.iload_n 2, 1) := by decide +kernel
theorem dX5_likeliest_8 : decode cX5_likeliest 8 = .ok (.invokestatic 90, 3) := by decide +kernel
theorem dX5_likeliest_11 : decode cX5_likeliest 11 = .ok (.ifCond .ne 5, 3) := by decide +kernel
theorem dX5_likeliest_14 : decode cX5_likeliest 14 = .ok (.iconst (-1), 1) := by decide +kernel
theorem dX5_likeliest_15 : decode cX5_likeliest 15 = .ok (.ireturn, 1) := by decide +kernel
theorem dX5_likeliest_16 : decode cX5_likeliest 16 = .ok (.iconst 0, 1) := by decide +kernel
theorem dX5_likeliest_17 : decode cX5_likeliest 17 = .ok (.istore_n 3, 1) := by decide +kernel
theorem dX5_likeliest_18 : decode cX5_likeliest 18 = .ok (.lconst 0, 1) := by decide +kernel
theorem dX5_likeliest_19 : decode cX5_likeliest 19 = .ok (.lstore 4, 2) := by decide +kernel
theorem dX5_likeliest_21 : decode cX5_likeliest 21 = .ok (.lconst 1, 1) := by decide +kernel
theorem dX5_likeliest_22 : decode cX5_likeliest 22 = .ok (.lstore 6, 2) := by decide +kernel
theorem dX5_likeliest_24 : decode cX5_likeliest 24 = .ok (.iconst 0, 1) := by decide +kernel
theorem dX5_likeliest_25 : decode cX5_likeliest 25 = .ok (.istore 8, 2) := by decide +kernel
theorem dX5_likeliest_27 : decode cX5_likeliest 27 = .ok (.iload 8, 2) := by decide +kernel
theorem dX5_likeliest_29 : decode cX5_likeliest 29 = .ok (.bipush 6, 2) := by decide +kernel
theorem dX5_likeliest_31 : decode cX5_likeliest 31 = .ok (.if_icmp .ge 73, 3) := by decide +kernel
theorem dX5_likeliest_34 : decode cX5_likeliest 34 = .ok (.aload_n 0, 1) := by decide +kernel
theorem dX5_likeliest_35 : decode cX5_likeliest 35 = .ok (.getfield 30, 3) := by decide +kernel
theorem dX5_likeliest_38 : decode cX5_likeliest 38 = .ok (.aload_n 0, 1) := by decide +kernel
theorem dX5_likeliest_39 : decode cX5_likeliest 39 = .ok (.getfield 19, 3) := by decide +kernel
theorem dX5_likeliest_42 : decode cX5_likeliest 42 = .ok (.aload_n 0, 1) := by decide +kernel
theorem dX5_likeliest_43 : decode cX5_likeliest 43 = .ok (.getfield 23, 3) := by decide +kernel
theorem dX5_likeliest_46 : decode cX5_likeliest 46 = .ok (.iload_n 1, 1) := by decide +kernel
theorem dX5_likeliest_47 : decode cX5_likeliest 47 = .ok (.iload_n 2, 1) := by decide +kernel
theorem dX5_likeliest_48 : decode cX5_likeliest 48 = .ok (.iload 8, 2) := by decide +kernel
theorem dX5_likeliest_50 : decode cX5_likeliest 50 = .ok (.invokevirtual 116, 3) := by decide +kernel
theorem dX5_likeliest_53 : decode cX5_likeliest 53 = .ok (.aload_n 0, 1) := by decide +kernel
theorem dX5_likeliest_54 : decode cX5_likeliest 54 = .ok (.getfield 30, 3) := by decide +kernel
theorem dX5_likeliest_57 : decode cX5_likeliest 57 = .ok (.getfield 120, 3) := by decide +kernel
theorem dX5_likeliest_60 : decode cX5_likeliest 60 = .ok (.lload 6, 2) := by decide +kernel
theorem dX5_likeliest_62 : decode cX5_likeliest 62 = .ok (.lmul, 1) := by decide +kernel
theorem dX5_likeliest_63 : decode cX5_likeliest 63 = .ok (.lload 4, 2) := by decide +kernel
theorem dX5_likeliest_65 : decode cX5_likeliest 65 = .ok (.aload_n 0, 1) := by decide +kernel
theorem dX5_likeliest_66 : decode cX5_likeliest 66 = .ok (.getfield 30, 3) := by decide +kernel
theorem dX5_likeliest_69 : decode cX5_likeliest 69 = .ok (.getfield 124, 3) := by decide +kernel
theorem dX5_likeliest_72 : decode cX5_likeliest 72 = .ok (.lmul, 1) := by decide +kernel
theorem dX5_likeliest_73 : decode cX5_likeliest 73 = .ok (.lcmp, 1) := by decide +kernel
theorem dX5_likeliest_74 : decode cX5_likeliest 74 = .ok (.ifCond .le 24, 3) := by decide +kernel
theorem dX5_likeliest_77 : decode cX5_likeliest 77 = .ok (.iload 8, 2) := by decide +kernel
theorem dX5_likeliest_79 : decode cX5_likeliest 79 = .ok (.istore_n 3, 1) := by decide +kernel
theorem dX5_likeliest_80 : decode cX5_likeliest 80 = .ok (.aload_n 0, 1) := by decide +kernel
theorem dX5_likeliest_81 : decode cX5_likeliest 81 = .ok (.getfield 30, 3) := by decide +kernel
theorem dX5_likeliest_84 : decode cX5_likeliest 84 = .ok (.getfield 120, 3) := by decide +kernel
theorem dX5_likeliest_87 : decode cX5_likeliest 87 = .ok (.lstore 4, 2) := by decide +kernel
theorem dX5_likeliest_89 : decode cX5_likeliest 89 = .ok (.aload_n 0, 1) := by decide +kernel
theorem dX5_likeliest_90 : decode cX5_likeliest 90 = .ok (.getfield 30, 3) := by decide +kernel
theorem dX5_likeliest_93 : decode cX5_likeliest 93 = .ok (.getfield 124, 3) := by decide +kernel
theorem dX5_likeliest_96 : decode cX5_likeliest 96 = .ok (.lstore 6, 2) := by decide +kernel
theorem dX5_likeliest_98 : decode cX5_likeliest 98 = .ok (.iinc 8 1, 3) := by decide +kernel
theorem dX5_likeliest_101 : decode cX5_likeliest 101 = .ok (.goto (-74), 3) := by decide +kernel
theorem dX5_likeliest_104 : decode cX5_likeliest 104 = .ok (.iload_n 3, 1) := by decide +kernel
theorem dX5_likeliest_105 : decode cX5_likeliest 105 = .ok (.ireturn, 1) := by decide +kernel
theorem dX5_score_0 : decode cX5_score 0 = .ok (.aload_n 0, 1) := by decide +kernel
theorem dX5_score_1 : decode cX5_score 1 = .ok (.invokevirtual 127, 3) := by decide +kernel
theorem dX5_score_4 : decode cX5_score 4 = .ok (.iload_n 1, 1) := by decide +kernel
theorem dX5_score_5 : decode cX5_score 5 = .ok (.ifCond .ne 17, 3) := by decide +kernel
theorem dX5_score_8 : decode cX5_score 8 = .ok (.aload_n 0, 1) := by decide +kernel
theorem dX5_score_9 : decode cX5_score 9 = .ok (.getfield 37, 3) := by decide +kernel
theorem dX5_score_12 : decode cX5_score 12 = .ok (.getfield 130, 3) := by decide +kernel
theorem dX5_score_15 : decode cX5_score 15 = .ok (.iload_n 2, 1) := by decide +kernel
theorem dX5_score_16 : decode cX5_score 16 = .ok (.invokevirtual 132, 3) := by decide +kernel
theorem dX5_score_19 : decode cX5_score 19 = .ok (.goto 14, 3) := by decide +kernel
theorem dX5_score_22 : decode cX5_score 22 = .ok (.aload_n 0, 1) := by decide +kernel
theorem dX5_score_23 : decode cX5_score 23 = .ok (.getfield 37, 3) := by decide +kernel
theorem dX5_score_26 : decode cX5_score 26 = .ok (.getfield 135, 3) := by decide +kernel
theorem dX5_score_29 : decode cX5_score 29 = .ok (.iload_n 2, 1) := by decide +kernel
theorem dX5_score_30 : decode cX5_score 30 = .ok (.invokevirtual 132, 3) := by decide +kernel
theorem dX5_score_33 : decode cX5_score 33 = .ok (.ireturn, 1) := by decide +kernel
theorem dX5_scoreOpen_0 : decode cX5_scoreOpen 0 = .ok (.aload_n 0, 1) := by decide +kernel
theorem dX5_scoreOpen_1 : decode cX5_scoreOpen 1 = .ok (.getfield 37, 3) := by decide +kernel
theorem dX5_scoreOpen_4 : decode cX5_scoreOpen 4 = .ok (.invokevirtual 156, 3) := by decide +kernel
theorem dX5_scoreOpen_7 : decode cX5_scoreOpen 7 = .ok (.iconst 0, 1) := by decide +kernel
theorem dX5_scoreOpen_8 : decode cX5_scoreOpen 8 = .ok (.istore_n 1, 1) := by decide +kernel
theorem dX5_scoreOpen_9 : decode cX5_scoreOpen 9 = .ok (.iload_n 1, 1) := by decide +kernel
theorem dX5_scoreOpen_10 : decode cX5_scoreOpen 10 = .ok (.aload_n 0, 1) := by decide +kernel
theorem dX5_scoreOpen_11 : decode cX5_scoreOpen 11 = .ok (.getfield 10, 3) := by decide +kernel
theorem dX5_scoreOpen_14 : decode cX5_scoreOpen 14 = .ok (.invokevirtual 76, 3) := by decide +kernel
theorem dX5_scoreOpen_17 : decode cX5_scoreOpen 17 = .ok (.if_icmp .gt 67, 3) := by decide +kernel
theorem dX5_scoreOpen_20 : decode cX5_scoreOpen 20 = .ok (.aload_n 0, 1) := by decide +kernel
theorem dX5_scoreOpen_21 : decode cX5_scoreOpen 21 = .ok (.getfield 10, 3) := by decide +kernel
theorem dX5_scoreOpen_24 : decode cX5_scoreOpen 24 = .ok (.iload_n 1, 1) := by decide +kernel
theorem dX5_scoreOpen_25 : decode cX5_scoreOpen 25 = .ok (.iconst 2, 1) := by decide +kernel
theorem dX5_scoreOpen_26 : decode cX5_scoreOpen 26 = .ok (.isub, 1) := by decide +kernel
theorem dX5_scoreOpen_27 : decode cX5_scoreOpen 27 = .ok (.invokevirtual 149, 3) := by decide +kernel
theorem dX5_scoreOpen_30 : decode cX5_scoreOpen 30 = .ok (.istore_n 2, 1) := by decide +kernel
theorem dX5_scoreOpen_31 : decode cX5_scoreOpen 31 = .ok (.aload_n 0, 1) := by decide +kernel
theorem dX5_scoreOpen_32 : decode cX5_scoreOpen 32 = .ok (.getfield 10, 3) := by decide +kernel
theorem dX5_scoreOpen_35 : decode cX5_scoreOpen 35 = .ok (.iload_n 1, 1) := by decide +kernel
theorem dX5_scoreOpen_36 : decode cX5_scoreOpen 36 = .ok (.iconst 1, 1) := by decide +kernel
theorem dX5_scoreOpen_37 : decode cX5_scoreOpen 37 = .ok (.isub, 1) := by decide +kernel
theorem dX5_scoreOpen_38 : decode cX5_scoreOpen 38 = .ok (.invokevirtual 149, 3) := by decide +kernel
theorem dX5_scoreOpen_41 : decode cX5_scoreOpen 41 = .ok (.istore_n 3, 1) := by decide +kernel
theorem dX5_scoreOpen_42 : decode cX5_scoreOpen 42 = .ok (.aload_n 0, 1) := by decide +kernel
theorem dX5_scoreOpen_43 : decode cX5_scoreOpen 43 = .ok (.getfield 30, 3) := by decide +kernel
theorem dX5_scoreOpen_46 : decode cX5_scoreOpen 46 = .ok (.aload_n 0, 1) := by decide +kernel
theorem dX5_scoreOpen_47 : decode cX5_scoreOpen 47 = .ok (.getfield 19, 3) := by decide +kernel
theorem dX5_scoreOpen_50 : decode cX5_scoreOpen 50 = .ok (.aload_n 0, 1) := by decide +kernel
theorem dX5_scoreOpen_51 : decode cX5_scoreOpen 51 = .ok (.getfield 23, 3) := by decide +kernel
theorem dX5_scoreOpen_54 : decode cX5_scoreOpen 54 = .ok (.iload_n 2, 1) := by decide +kernel
theorem dX5_scoreOpen_55 : decode cX5_scoreOpen 55 = .ok (.iload_n 3, 1) := by decide +kernel
theorem dX5_scoreOpen_56 : decode cX5_scoreOpen 56 = .ok (.aload_n 0, 1) := by decide +kernel
theorem dX5_scoreOpen_57 : decode cX5_scoreOpen 57 = .ok (.getfield 10, 3) := by decide +kernel
theorem dX5_scoreOpen_60 : decode cX5_scoreOpen 60 = .ok (.iload_n 1, 1) := by decide +kernel
theorem dX5_scoreOpen_61 : decode cX5_scoreOpen 61 = .ok (.invokevirtual 149, 3) := by decide +kernel
theorem dX5_scoreOpen_64 : decode cX5_scoreOpen 64 = .ok (.invokevirtual 116, 3) := by decide +kernel
theorem dX5_scoreOpen_67 : decode cX5_scoreOpen 67 = .ok (.aload_n 0, 1) := by decide +kernel
theorem dX5_scoreOpen_68 : decode cX5_scoreOpen 68 = .ok (.getfield 37, 3) := by decide +kernel
theorem dX5_scoreOpen_71 : decode cX5_scoreOpen 71 = .ok (.aload_n 0, 1) := by decide +kernel
theorem dX5_scoreOpen_72 : decode cX5_scoreOpen 72 = .ok (.getfield 30, 3) := by decide +kernel
theorem dX5_scoreOpen_75 : decode cX5_scoreOpen 75 = .ok (.invokevirtual 159, 3) := by decide +kernel
theorem dX5_scoreOpen_78 : decode cX5_scoreOpen 78 = .ok (.iinc 1 1, 3) := by decide +kernel
theorem dX5_scoreOpen_81 : decode cX5_scoreOpen 81 = .ok (.goto (-72), 3) := by decide +kernel
theorem dX5_scoreOpen_84 : decode cX5_scoreOpen 84 = .ok (.return_, 1) := by decide +kernel
theorem dX5_keep_0 : decode cX5_keep 0 = .ok (.aload_n 0, 1) := by decide +kernel
theorem dX5_keep_1 : decode cX5_keep 1 = .ok (.invokevirtual 127, 3) := by decide +kernel
theorem dX5_keep_4 : decode cX5_keep 4 = .ok (.aload_n 0, 1) := by decide +kernel
theorem dX5_keep_5 : decode cX5_keep 5 = .ok (.getfield 41, 3) := by decide +kernel
theorem dX5_keep_8 : decode cX5_keep 8 = .ok (.aload_n 0, 1) := by decide +kernel
theorem dX5_keep_9 : decode cX5_keep 9 = .ok (.getfield 37, 3) := by decide +kernel
theorem dX5_keep_12 : decode cX5_keep 12 = .ok (.invokevirtual 137, 3) := by decide +kernel
theorem dX5_keep_15 : decode cX5_keep 15 = .ok (.return_, 1) := by decide +kernel
theorem dX5_against_0 : decode cX5_against 0 = .ok (.aload_n 0, 1) := by decide +kernel
theorem dX5_against_1 : decode cX5_against 1 = .ok (.invokevirtual 127, 3) := by decide +kernel
theorem dX5_against_4 : decode cX5_against 4 = .ok (.aload_n 0, 1) := by decide +kernel
theorem dX5_against_5 : decode cX5_against 5 = .ok (.getfield 49, 3) := by decide +kernel
theorem dX5_against_8 : decode cX5_against 8 = .ok (.aload_n 0, 1) := by decide +kernel
theorem dX5_against_9 : decode cX5_against 9 = .ok (.getfield 37, 3) := by decide +kernel
theorem dX5_against_12 : decode cX5_against 12 = .ok (.getfield 130, 3) := by decide +kernel
theorem dX5_against_15 : decode cX5_against 15 = .ok (.aload_n 0, 1) := by decide +kernel
theorem dX5_against_16 : decode cX5_against 16 = .ok (.getfield 41, 3) := by decide +kernel
theorem dX5_against_19 : decode cX5_against 19 = .ok (.getfield 135, 3) := by decide +kernel
theorem dX5_against_22 : decode cX5_against 22 = .ok (.invokevirtual 141, 3) := by decide +kernel
theorem dX5_against_25 : decode cX5_against 25 = .ok (.aload_n 0, 1) := by decide +kernel
theorem dX5_against_26 : decode cX5_against 26 = .ok (.getfield 53, 3) := by decide +kernel
theorem dX5_against_29 : decode cX5_against 29 = .ok (.aload_n 0, 1) := by decide +kernel
theorem dX5_against_30 : decode cX5_against 30 = .ok (.getfield 41, 3) := by decide +kernel
theorem dX5_against_33 : decode cX5_against 33 = .ok (.getfield 130, 3) := by decide +kernel
theorem dX5_against_36 : decode cX5_against 36 = .ok (.aload_n 0, 1) := by decide +kernel
theorem dX5_against_37 : decode cX5_against 37 = .ok (.getfield 37, 3) := by decide +kernel
theorem dX5_against_40 : decode cX5_against 40 = .ok (.getfield 135, 3) := by decide +kernel
theorem dX5_against_43 : decode cX5_against 43 = .ok (.invokevirtual 141, 3) := by decide +kernel
theorem dX5_against_46 : decode cX5_against 46 = .ok (.aload_n 0, 1) := by decide +kernel
theorem dX5_against_47 : decode cX5_against 47 = .ok (.getfield 49, 3) := by decide +kernel
theorem dX5_against_50 : decode cX5_against 50 = .ok (.aload_n 0, 1) := by decide +kernel
theorem dX5_against_51 : decode cX5_against 51 = .ok (.getfield 53, 3) := by decide +kernel
theorem dX5_against_54 : decode cX5_against 54 = .ok (.invokevirtual 145, 3) := by decide +kernel
theorem dX5_against_57 : decode cX5_against 57 = .ok (.ireturn, 1) := by decide +kernel
