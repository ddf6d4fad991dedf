theorem dX6_init_0 : decode cX6_init 0 = .ok (.aload_n 0, 1) := by decide +kernel
theorem dX6_init_1 : decode cX6_init 1 = .ok (.invokespecial 1, 3) := by decide +kernel
theorem dX6_init_4 : decode cX6_init 4 = .ok (.aload_n 0, 1) := by decide +kernel
theorem dX6_init_5 : decode cX6_init 5 = .ok (.iconst 3, 1) := by decide +kernel
theorem dX6_init_6 : decode cX6_init 6 = .ok (.putfield 7, 3) := by decide +kernel
theorem dX6_init_9 : decode cX6_init 9 = .ok (.aload_n 0, 1) := by decide +kernel
theorem dX6_init_10 : decode cX6_init 10 = .ok (.iconst 4, 1) := by decide +kernel
theorem dX6_init_11 : decode cX6_init 11 = .ok (.newarray .int, 2) := by decide +kernel
theorem dX6_init_13 : decode cX6_init 13 = .ok (.dup, 1) := by decide +kernel
theorem dX6_init_14 : decode cX6_init 14 = .ok (.iconst 0, 1) := by decide +kernel
theorem dX6_init_15 : decode cX6_init 15 = .ok (.iconst 0, 1) := by decide +kernel
theorem dX6_init_16 : decode cX6_init 16 = .ok (.iastore, 1) := by decide +kernel
theorem dX6_init_17 : decode cX6_init 17 = .ok (.dup, 1) := by decide +kernel
theorem dX6_init_18 : decode cX6_init 18 = .ok (.iconst 1, 1) := by decide +kernel
theorem dX6_init_19 : decode cX6_init 19 = .ok (.bipush 6, 2) := by decide +kernel
theorem dX6_init_21 : decode cX6_init 21 = .ok (.iastore, 1) := by decide +kernel
theorem dX6_init_22 : decode cX6_init 22 = .ok (.dup, 1) := by decide +kernel
theorem dX6_init_23 : decode cX6_init 23 = .ok (.iconst 2, 1) := by decide +kernel
theorem dX6_init_24 : decode cX6_init 24 = .ok (.bipush 6, 2) := by decide +kernel
theorem dX6_init_26 : decode cX6_init 26 = .ok (.iastore, 1) := by decide +kernel
theorem dX6_init_27 : decode cX6_init 27 = .ok (.dup, 1) := by decide +kernel
theorem dX6_init_28 : decode cX6_init 28 = .ok (.iconst 3, 1) := by decide +kernel
theorem dX6_init_29 : decode cX6_init 29 = .ok (.bipush 6, 2) := by decide +kernel
theorem dX6_init_31 : decode cX6_init 31 = .ok (.iastore, 1) := by decide +kernel
theorem dX6_init_32 : decode cX6_init 32 = .ok (.putfield 13, 3) := by decide +kernel
theorem dX6_init_35 : decode cX6_init 35 = .ok (.aload_n 0, 1) := by decide +kernel
theorem dX6_init_36 : decode cX6_init 36 = .ok (.bipush 9, 2) := by decide +kernel
theorem dX6_init_38 : decode cX6_init 38 = .ok (.newarray .int, 2) := by decide +kernel
theorem dX6_init_40 : decode cX6_init 40 = .ok (.putfield 17, 3) := by decide +kernel
theorem dX6_init_43 : decode cX6_init 43 = .ok (.aload_n 0, 1) := by decide +kernel
theorem dX6_init_44 : decode cX6_init 44 = .ok (.bipush 72, 2) := by decide +kernel
theorem dX6_init_46 : decode cX6_init 46 = .ok (.newarray .int, 2) := by decide +kernel
theorem dX6_init_48 : decode cX6_init 48 = .ok (.putfield 20, 3) := by decide +kernel
theorem dX6_init_51 : decode cX6_init 51 = .ok (.aload_n 0, 1) := by decide +kernel
theorem dX6_init_52 : decode cX6_init 52 = .ok (.bipush 72, 2) := by decide +kernel
theorem dX6_init_54 : decode cX6_init 54 = .ok (.newarray .int, 2) := by decide +kernel
theorem dX6_init_56 : decode cX6_init 56 = .ok (.putfield 23, 3) := by decide +kernel
theorem dX6_init_59 : decode cX6_init 59 = .ok (.aload_n 0, 1) := by decide +kernel
theorem dX6_init_60 : decode cX6_init 60 = .ok (.bipush 72, 2) := by decide +kernel
theorem dX6_init_62 : decode cX6_init 62 = .ok (.newarray .int, 2) := by decide +kernel
theorem dX6_init_64 : decode cX6_init 64 = .ok (.putfield 26, 3) := by decide +kernel
theorem dX6_init_67 : decode cX6_init 67 = .ok (.aload_n 0, 1) := by decide +kernel
theorem dX6_init_68 : decode cX6_init 68 = .ok (.bipush 72, 2) := by decide +kernel
theorem dX6_init_70 : decode cX6_init 70 = .ok (.newarray .int, 2) := by decide +kernel
theorem dX6_init_72 : decode cX6_init 72 = .ok (.putfield 29, 3) := by decide +kernel
theorem dX6_init_75 : decode cX6_init 75 = .ok (.aload_n 0, 1) := by decide +kernel
theorem dX6_init_76 : decode cX6_init 76 = .ok (.sipush 240, 3) := by decide +kernel
theorem dX6_init_79 : decode cX6_init 79 = .ok (.newarray .int, 2) := by decide +kernel
theorem dX6_init_81 : decode cX6_init 81 = .ok (.putfield 32, 3) := by decide +kernel
theorem dX6_init_84 : decode cX6_init 84 = .ok (.aload_n 0, 1) := by decide +kernel
theorem dX6_init_85 : decode cX6_init 85 = .ok (.getfield 32, 3) := by decide +kernel
theorem dX6_init_88 : decode cX6_init 88 = .ok (.bipush 80, 2) := by decide +kernel
theorem dX6_init_90 : decode cX6_init 90 = .ok (.iconst 1, 1) := by decide +kernel
theorem dX6_init_91 : decode cX6_init 91 = .ok (.iastore, 1) := by decide +kernel
theorem dX6_init_92 : decode cX6_init 92 = .ok (.aload_n 0, 1) := by decide +kernel
theorem dX6_init_93 : decode cX6_init 93 = .ok (.getfield 32, 3) := by decide +kernel
theorem dX6_init_96 : decode cX6_init 96 = .ok (.bipush 120, 2) := by decide +kernel
theorem dX6_init_98 : decode cX6_init 98 = .ok (.iconst 1, 1) := by decide +kernel
theorem dX6_init_99 : decode cX6_init 99 = .ok (.iastore, 1) := by decide +kernel
theorem dX6_init_100 : decode cX6_init 100 = .ok (.return_, 1) := by decide +kernel
theorem dX6_order_0 : decode cX6_order 0 = .ok (.iload_n 1, 1) := by decide +kernel
theorem dX6_order_1 : decode cX6_order 1 = .ok (.iconst 1, 1) := by decide +kernel
theorem dX6_order_2 : decode cX6_order 2 = .ok (.if_icmp .lt 8, 3) := by decide +kernel
theorem dX6_order_5 : decode cX6_order 5 = .ok (.iload_n 1, 1) := by decide +kernel
theorem dX6_order_6 : decode cX6_order 6 = .ok (.iconst 3, 1) := by decide +kernel
theorem dX6_order_7 : decode cX6_order 7 = .ok (.if_icmp .le 5, 3) := by decide +kernel
theorem dX6_order_10 : decode cX6_order 10 = .ok (.iconst 0, 1) := by decide +kernel
theorem dX6_order_11 : decode cX6_order 11 = .ok (.ireturn, 1) := by decide +kernel
theorem dX6_order_12 : decode cX6_order 12 = .ok (.aload_n 0, 1) := by decide +kernel
theorem dX6_order_13 : decode cX6_order 13 = .ok (.iload_n 1, 1) := by decide +kernel
theorem dX6_order_14 : decode cX6_order 14 = .ok (.putfield 7, 3) := by decide +kernel
theorem dX6_order_17 : decode cX6_order 17 = .ok (.iconst 1, 1) := by decide +kernel
theorem dX6_order_18 : decode cX6_order 18 = .ok (.ireturn, 1) := by decide +kernel
theorem dX6_discount_0 : decode cX6_discount 0 = .ok (.iload_n 1, 1) := by decide +kernel
theorem dX6_discount_1 : decode cX6_discount 1 = .ok (.iconst 1, 1) := by decide +kernel
theorem dX6_discount_2 : decode cX6_discount 2 = .ok (.if_icmp .lt 19, 3) := by decide +kernel
theorem dX6_discount_5 : decode cX6_discount 5 = .ok (.iload_n 1, 1) := by decide +kernel
theorem dX6_discount_6 : decode cX6_discount 6 = .ok (.iconst 3, 1) := by decide +kernel
theorem dX6_discount_7 : decode cX6_discount 7 = .ok (.if_icmp .gt 14, 3) := by decide +kernel
theorem dX6_discount_10 : decode cX6_discount 10 = .ok (.iload_n 2, 1) := by decide +kernel
theorem dX6_discount_11 : decode cX6_discount 11 = .ok (.iconst 1, 1) := by decide +kernel
theorem dX6_discount_12 : decode cX6_discount 12 = .ok (.if_icmp .lt 9, 3) := by decide +kernel
theorem dX6_discount_15 : decode cX6_discount 15 = .ok (.iload_n 2, 1) := by decide +kernel
theorem dX6_discount_16 : decode cX6_discount 16 = .ok (.bipush 8, 2) := by decide +kernel
theorem dX6_discount_18 : decode cX6_discount 18 = .ok (.if_icmp .le 5, 3) := by decide +kernel
theorem dX6_discount_21 : decode cX6_discount 21 = .ok (.iconst 0, 1) := by decide +kernel
theorem dX6_discount_22 : decode cX6_discount 22 = .ok (.ireturn, 1) := by decide +kernel
theorem dX6_discount_23 : decode cX6_discount 23 = .ok (.aload_n 0, 1) := by decide +kernel
theorem dX6_discount_24 : decode cX6_discount 24 = .ok (.getfield 13, 3) := by decide +kernel
theorem dX6_discount_27 : decode cX6_discount 27 = .ok (.iload_n 1, 1) := by decide +kernel
theorem dX6_discount_28 : decode cX6_discount 28 = .ok (.iload_n 2, 1) := by decide +kernel
theorem dX6_discount_29 : decode cX6_discount 29 = .ok (.iastore, 1) := by decide +kernel
theorem dX6_discount_30 : decode cX6_discount 30 = .ok (.iconst 1, 1) := by decide +kernel
theorem dX6_discount_31 : decode cX6_discount 31 = .ok (.ireturn, 1) := by decide +kernel
theorem dX6_word_0 : decode cX6_word 0 = .ok (.aload_n 0, 1) := by decide +kernel
theorem dX6_word_1 : decode cX6_word 1 = .ok (.getfield 35, 3) := by decide +kernel
theorem dX6_word_4 : decode cX6_word 4 = .ok (.istore_n 2, 1) := by decide +kernel
theorem dX6_word_5 : decode cX6_word 5 = .ok (.iload_n 1, 1) := by decide +kernel
theorem dX6_word_6 : decode cX6_word 6 = .ok (.ifCond .lt 19, 3) := by decide +kernel
theorem dX6_word_9 : decode cX6_word 9 = .ok (.iload_n 1, 1) := by decide +kernel
theorem dX6_word_10 : decode cX6_word 10 = .ok (.iconst 4, 1) := by decide +kernel
theorem dX6_word_11 : decode cX6_word 11 = .ok (.if_icmp .gt 14, 3) := by decide +kernel
theorem dX6_word_14 : decode cX6_word 14 = .ok (.aload_n 0, 1) := by decide +kernel
theorem dX6_word_15 : decode cX6_word 15 = .ok (.getfield 17, 3) := by decide +kernel
theorem dX6_word_18 : decode cX6_word 18 = .ok (.iload_n 2, 1) := by decide +kernel
theorem dX6_word_19 : decode cX6_word 19 = .ok (.iaload, 1) := by decide +kernel
theorem dX6_word_20 : decode cX6_word 20 = .ok (.bipush 8, 2) := by decide +kernel
theorem dX6_word_22 : decode cX6_word 22 = .ok (.if_icmp .ne 5, 3) := by decide +kernel
theorem dX6_word_25 : decode cX6_word 25 = .ok (.iconst 0, 1) := by decide +kernel
theorem dX6_word_26 : decode cX6_word 26 = .ok (.ireturn, 1) := by decide +kernel
theorem dX6_word_27 : decode cX6_word 27 = .ok (.aload_n 0, 1) := by decide +kernel
theorem dX6_word_28 : decode cX6_word 28 = .ok (.getfield 20, 3) := by decide +kernel
theorem dX6_word_31 : decode cX6_word 31 = .ok (.bipush 8, 2) := by decide +kernel
theorem dX6_word_33 : decode cX6_word 33 = .ok (.iload_n 2, 1) := by decide +kernel
theorem dX6_word_34 : decode cX6_word 34 = .ok (.imul, 1) := by decide +kernel
theorem dX6_word_35 : decode cX6_word 35 = .ok (.aload_n 0, 1) := by decide +kernel
theorem dX6_word_36 : decode cX6_word 36 = .ok (.getfield 17, 3) := by decide +kernel
theorem dX6_word_39 : decode cX6_word 39 = .ok (.iload_n 2, 1) := by decide +kernel
theorem dX6_word_40 : decode cX6_word 40 = .ok (.iaload, 1) := by decide +kernel
theorem dX6_word_41 : decode cX6_word 41 = .ok (.iadd, 1) := by decide +kernel
theorem dX6_word_42 : decode cX6_word 42 = .ok (.iload_n 1, 1) := by decide +kernel
theorem dX6_word_43 : decode cX6_word 43 = .ok (.iastore, 1) := by decide +kernel
theorem dX6_word_44 : decode cX6_word 44 = .ok (.aload_n 0, 1) := by decide +kernel
theorem dX6_word_45 : decode cX6_word 45 = .ok (.getfield 17, 3) := by decide +kernel
theorem dX6_word_48 : decode cX6_word 48 = .ok (.iload_n 2, 1) := by decide +kernel
theorem dX6_word_49 : decode cX6_word 49 = .ok (.aload_n 0, 1) := by decide +kernel
theorem dX6_word_50 : decode cX6_word 50 = .ok (.getfield 17, 3) := by decide +kernel
theorem dX6_word_53 : decode cX6_word 53 = .ok (.iload_n 2, 1) := by decide +kernel
theorem dX6_word_54 : decode cX6_word 54 = .ok (.iaload, 1) := by decide +kernel
theorem dX6_word_55 : decode cX6_word 55 = .ok (.iconst 1, 1) := by decide +kernel
theorem dX6_word_56 : decode cX6_word 56 = .ok (.iadd, 1) := by decide +kernel
theorem dX6_word_57 : decode cX6_word 57 = .ok (.iastore, 1) := by decide +kernel
theorem dX6_word_58 : decode cX6_word 58 = .ok (.iconst 1, 1) := by decide +kernel
theorem dX6_word_59 : decode cX6_word 59 = .ok (.ireturn, 1) := by decide +kernel
theorem dX6_learn_0 : decode cX6_learn 0 = .ok (.aload_n 0, 1) := by decide +kernel
theorem dX6_learn_1 : decode cX6_learn 1 = .ok (.getfield 35, 3) := by decide +kernel
theorem dX6_learn_4 : decode cX6_learn 4 = .ok (.bipush 8, 2) := by decide +kernel
theorem dX6_learn_6 : decode cX6_learn 6 = .ok (.if_icmp .ne 5, 3) := by decide +kernel
theorem dX6_learn_9 : decode cX6_learn 9 = .ok (.iconst (-1), 1) := by decide +kernel
theorem dX6_learn_10 : decode cX6_learn 10 = .ok (.ireturn, 1) := by decide +kernel
theorem dX6_learn_11 : decode cX6_learn 11 = .ok (.aload_n 0, 1) := by decide +kernel
theorem dX6_learn_12 : decode cX6_learn 12 = .ok (.aload_n 0, 1) := by decide +kernel
theorem dX6_learn_13 : decode cX6_learn 13 = .ok (.getfield 35, 3) := by decide +kernel
theorem dX6_learn_16 : decode cX6_learn 16 = .ok (.iconst 1, 1) := by decide +kernel
theorem dX6_learn_17 : decode cX6_learn 17 = .ok (.iadd, 1) := by decide +kernel
theorem dX6_learn_18 : decode cX6_learn 18 = .ok (.putfield 35, 3) := by decide +kernel
theorem dX6_learn_21 : decode cX6_learn 21 = .ok (.aload_n 0, 1) := by decide +kernel
theorem dX6_learn_22 : decode cX6_learn 22 = .ok (.getfield 17, 3) := by decide +kernel
theorem dX6_learn_25 : decode cX6_learn 25 = .ok (.aload_n 0, 1) := by decide +kernel
theorem dX6_learn_26 : decode cX6_learn 26 = .ok (.getfield 35, 3) := by decide +kernel
theorem dX6_learn_29 : decode cX6_learn 29 = .ok (.iconst 0, 1) := by decide +kernel
theorem dX6_learn_30 : decode cX6_learn 30 = .ok (.iastore, 1) := by decide +kernel
theorem dX6_learn_31 : decode cX6_learn 31 = .ok (.aload_n 0, 1) := by decide +kernel
theorem dX6_learn_32 : decode cX6_learn 32 = .ok (.getfield 35, 3) := by decide +kernel
theorem dX6_learn_35 : decode cX6_learn 35 = .ok (.ireturn, 1) := by decide +kernel
theorem dX6_erase_0 : decode cX6_erase 0 = .ok (.aload_n 0, 1) := by decide +kernel
theorem dX6_erase_1 : decode cX6_erase 1 = .ok (.getfield 17, 3) := by decide +kernel
theorem dX6_erase_4 : decode cX6_erase 4 = .ok (.aload_n 0, 1) := by decide +kernel
theorem dX6_erase_5 : decode cX6_erase 5 = .ok (.getfield 35, 3) := by decide +kernel
theorem dX6_erase_8 : decode cX6_erase 8 = .ok (.iaload, 1) := by decide +kernel
theorem dX6_erase_9 : decode cX6_erase 9 = .ok (.istore_n 1, 1) := by decide +kernel
theorem dX6_erase_10 : decode cX6_erase 10 = .ok (.aload_n 0, 1) := by decide +kernel
theorem dX6_erase_11 : decode cX6_erase 11 = .ok (.getfield 17, 3) := by decide +kernel
theorem dX6_erase_14 : decode cX6_erase 14 = .ok (.aload_n 0, 1) := by decide +kernel
theorem dX6_erase_15 : decode cX6_erase 15 = .ok (.getfield 35, 3) := by decide +kernel
theorem dX6_erase_18 : decode cX6_erase 18 = .ok (.iconst 0, 1) := by decide +kernel
theorem dX6_erase_19 : decode cX6_erase 19 = .ok (.iastore, 1) := by decide +kernel
theorem dX6_erase_20 : decode cX6_erase 20 = .ok (.iload_n 1, 1) := by decide +kernel
theorem dX6_erase_21 : decode cX6_erase 21 = .ok (.ireturn, 1) := by decide +kernel
theorem dX6_forget_0 : decode cX6_forget 0 = .ok (.aload_n 0, 1) := by decide +kernel
theorem dX6_forget_1 : decode cX6_forget 1 = .ok (.getfield 35, 3) := by decide +kernel
theorem dX6_forget_4 : decode cX6_forget 4 = .ok (.ifCond .ne 5, 3) := by decide +kernel
theorem dX6_forget_7 : decode cX6_forget 7 = .ok (.iconst (-1), 1) := by decide +kernel
theorem dX6_forget_8 : decode cX6_forget 8 = .ok (.ireturn, 1) := by decide +kernel
theorem dX6_forget_9 : decode cX6_forget 9 = .ok (.aload_n 0, 1) := by decide +kernel
theorem dX6_forget_10 : decode cX6_forget 10 = .ok (.aload_n 0, 1) := by decide +kernel
theorem dX6_forget_11 : decode cX6_forget 11 = .ok (.getfield 35, 3) := by decide +kernel
theorem dX6_forget_14 : decode cX6_forget 14 = .ok (.iconst 1, 1) := by decide +kernel
theorem dX6_forget_15 : decode cX6_forget 15 = .ok (.isub, 1) := by decide +kernel
theorem dX6_forget_16 : decode cX6_forget 16 = .ok (.putfield 35, 3) := by decide +kernel
theorem dX6_forget_19 : decode cX6_forget 19 = .ok (.aload_n 0, 1) := by decide +kernel
theorem dX6_forget_20 : decode cX6_forget 20 = .ok (.getfield 17, 3) := by decide +kernel
theorem dX6_forget_23 : decode cX6_forget 23 = .ok (.aload_n 0, 1) := by decide +kernel
theorem dX6_forget_24 : decode cX6_forget 24 = .ok (.getfield 35, 3) := by decide +kernel
theorem dX6_forget_27 : decode cX6_forget 27 = .ok (.iaload, 1) := by decide +kernel
theorem dX6_forget_28 : decode cX6_forget 28 = .ok (.ireturn, 1) := by decide +kernel
theorem dX6_count_0 : decode cX6_count 0 = .ok (.aload_n 0, 1) := by decide +kernel
theorem dX6_count_1 : decode cX6_count 1 = .ok (.invokevirtual 56, 3) := by decide +kernel
theorem dX6_count_4 : decode cX6_count 4 = .ok (.aload_n 0, 1) := by decide +kernel
theorem dX6_count_5 : decode cX6_count 5 = .ok (.iload_n 1, 1) := by decide +kernel
theorem dX6_count_6 : decode cX6_count 6 = .ok (.iload_n 2, 1) := by decide +kernel
theorem dX6_count_7 : decode cX6_count 7 = .ok (.iload_n 3, 1) := by decide +kernel
theorem dX6_count_8 : decode cX6_count 8 = .ok (.invokevirtual 59, 3) := by decide +kernel
theorem dX6_count_11 : decode cX6_count 11 = .ok (.ifCond .eq 23, 3) := by decide +kernel
theorem dX6_count_14 : decode cX6_count 14 = .ok (.iload 4, 2) := by decide +kernel
theorem dX6_count_16 : decode cX6_count 16 = .ok (.invokestatic 53, 3) := by decide +kernel
theorem dX6_count_19 : decode cX6_count 19 = .ok (.ifCond .eq 15, 3) := by decide +kernel
theorem dX6_count_22 : decode cX6_count 22 = .ok (.aload_n 0, 1) := by decide +kernel
theorem dX6_count_23 : decode cX6_count 23 = .ok (.iload_n 1, 1) := by decide +kernel
theorem dX6_count_24 : decode cX6_count 24 = .ok (.iload_n 2, 1) := by decide +kernel
theorem dX6_count_25 : decode cX6_count 25 = .ok (.iload_n 3, 1) := by decide +kernel
theorem dX6_count_26 : decode cX6_count 26 = .ok (.iload 4, 2) := by decide +kernel
theorem dX6_count_28 : decode cX6_count 28 = .ok (.invokevirtual 63, 3) := by decide +kernel
theorem dX6_count_31 : decode cX6_count 31 = .ok (.goto 4, 3) := by decide +kernel
theorem dX6_count_34 : decode cX6_count 34 = .ok (.iconst 0, 1) := by decide +kernel
theorem dX6_count_35 : decode cX6_count 35 = .ok (.ireturn, 1) := by decide +kernel
theorem dX6_look_0 : decode cX6_look 0 = .ok (.aload_n 0, 1) := by decide +kernel
theorem dX6_look_1 : decode cX6_look 1 = .ok (.iconst 0, 1) := by decide +kernel
theorem dX6_look_2 : decode cX6_look 2 = .ok (.putfield 38, 3) := by decide +kernel
theorem dX6_look_5 : decode cX6_look 5 = .ok (.iconst 0, 1) := by decide +kernel
theorem dX6_look_6 : decode cX6_look 6 = .ok (.istore_n 1, 1) := by decide +kernel
theorem dX6_look_7 : decode cX6_look 7 = .ok (.iload_n 1, 1) := by decide +kernel
theorem dX6_look_8 : decode cX6_look 8 = .ok (.aload_n 0, 1) := by decide +kernel
theorem dX6_look_9 : decode cX6_look 9 = .ok (.getfield 35, 3) := by decide +kernel
theorem dX6_look_12 : decode cX6_look 12 = .ok (.if_icmp .ge 86, 3) := by decide +kernel
theorem dX6_look_15 : decode cX6_look 15 = .ok (.iconst 0, 1) := by decide +kernel
theorem dX6_look_16 : decode cX6_look 16 = .ok (.istore_n 2, 1) := by decide +kernel
theorem dX6_look_17 : decode cX6_look 17 = .ok (.iload_n 2, 1) := by decide +kernel
theorem dX6_look_18 : decode cX6_look 18 = .ok (.aload_n 0, 1) := by decide +kernel
theorem dX6_look_19 : decode cX6_look 19 = .ok (.getfield 17, 3) := by decide +kernel
theorem dX6_look_22 : decode cX6_look 22 = .ok (.iload_n 1, 1) := by decide +kernel
theorem dX6_look_23 : decode cX6_look 23 = .ok (.iaload, 1) := by decide +kernel
theorem dX6_look_24 : decode cX6_look 24 = .ok (.if_icmp .gt 68, 3) := by decide +kernel
theorem dX6_look_27 : decode cX6_look 27 = .ok (.aload_n 0, 1) := by decide +kernel
theorem dX6_look_28 : decode cX6_look 28 = .ok (.getfield 23, 3) := by decide +kernel
theorem dX6_look_31 : decode cX6_look 31 = .ok (.aload_n 0, 1) := by decide +kernel
theorem dX6_look_32 : decode cX6_look 32 = .ok (.getfield 38, 3) := by decide +kernel
theorem dX6_look_35 : decode cX6_look 35 = .ok (.aload_n 0, 1) := by decide +kernel
theorem dX6_look_36 : decode cX6_look 36 = .ok (.iload_n 1, 1) := by decide +kernel
theorem dX6_look_37 : decode cX6_look 37 = .ok (.iload_n 2, 1) := by decide +kernel
theorem dX6_look_38 : decode cX6_look 38 = .ok (.invokevirtual 41, 3) := by decide +kernel
theorem dX6_look_41 : decode cX6_look 41 = .ok (.iastore, 1) := by decide +kernel
theorem dX6_look_42 : decode cX6_look 42 = .ok (.aload_n 0, 1) := by decide +kernel
theorem dX6_look_43 : decode cX6_look 43 = .ok (.getfield 26, 3) := by decide +kernel
theorem dX6_look_46 : decode cX6_look 46 = .ok (.aload_n 0, 1) := by decide +kernel
theorem dX6_look_47 : decode cX6_look 47 = .ok (.getfield 38, 3) := by decide +kernel
theorem dX6_look_50 : decode cX6_look 50 = .ok (.aload_n 0, 1) := by decide +kernel
theorem dX6_look_51 : decode cX6_look 51 = .ok (.iload_n 1, 1) := by decide +kernel
theorem dX6_look_52 : decode cX6_look 52 = .ok (.iload_n 2, 1) := by decide +kernel
theorem dX6_look_53 : decode cX6_look 53 = .ok (.iconst 1, 1) := by decide +kernel
theorem dX6_look_54 : decode cX6_look 54 = .ok (.isub, 1) := by decide +kernel
theorem dX6_look_55 : decode cX6_look 55 = .ok (.invokevirtual 41, 3) := by decide +kernel
theorem dX6_look_58 : decode cX6_look 58 = .ok (.iastore, 1) := by decide +kernel
theorem dX6_look_59 : decode cX6_look 59 = .ok (.aload_n 0, 1) := by decide +kernel
theorem dX6_look_60 : decode cX6_look 60 = .ok (.getfield 29, 3) := by decide +kernel
theorem dX6_look_63 : decode cX6_look 63 = .ok (.aload_n 0, 1) := by decide +kernel
theorem dX6_look_64 : decode cX6_look 64 = .ok (.getfield 38, 3) := by decide +kernel
theorem dX6_look_67 : decode cX6_look 67 = .ok (.aload_n 0, 1) := by decide +kernel
theorem dX6_look_68 : decode cX6_look 68 = .ok (.iload_n 1, 1) := by decide +kernel
theorem dX6_look_69 : decode cX6_look 69 = .ok (.iload_n 2, 1) := by decide +kernel
theorem dX6_look_70 : decode cX6_look 70 = .ok (.iconst 2, 1) := by decide +kernel
theorem dX6_look_71 : decode cX6_look 71 = .ok (.isub, 1) := by decide +kernel
theorem dX6_look_72 : decode cX6_look 72 = .ok (.invokevirtual 41, 3) := by decide +kernel
theorem dX6_look_75 : decode cX6_look 75 = .ok (.iastore, 1) := by decide +kernel
theorem dX6_look_76 : decode cX6_look 76 = .ok (.aload_n 0, 1) := by decide +kernel
theorem dX6_look_77 : decode cX6_look 77 = .ok (.aload_n 0, 1) := by decide +kernel
theorem dX6_look_78 : decode cX6_look 78 = .ok (.getfield 38, 3) := by decide +kernel
theorem dX6_look_81 : decode cX6_look 81 = .ok (.iconst 1, 1) := by decide +kernel
theorem dX6_look_82 : decode cX6_look 82 = .ok (.iadd, 1) := by decide +kernel
theorem dX6_look_83 : decode cX6_look 83 = .ok (.putfield 38, 3) := by decide +kernel
theorem dX6_look_86 : decode cX6_look 86 = .ok (.iinc 2 1, 3) := by decide +kernel
theorem dX6_look_89 : decode cX6_look 89 = .ok (.goto (-72), 3) := by decide +kernel
theorem dX6_look_92 : decode cX6_look 92 = .ok (.iinc 1 1, 3) := by decide +kernel
theorem dX6_look_95 : decode cX6_look 95 = .ok (.goto (-88), 3) := by decide +kernel
theorem dX6_look_98 : decode cX6_look 98 = .ok (.return_, 1) := by decide +kernel
theorem dX6_symbolAt_0 : decode cX6_symbolAt 0 = .ok (.iload_n 2, 1) := by decide +kernel
theorem dX6_symbolAt_1 : decode cX6_symbolAt 1 = .ok (.ifCond .ge 8, 3) := by decide +kernel
theorem dX6_symbolAt_4 : decode cX6_symbolAt 4 = .ok (.bipush 6, 2) := by decide +kernel
theorem dX6_symbolAt_6 : decode cX6_symbolAt 6 = .ok (.goto 28, 3) := by decide +kernel
theorem dX6_symbolAt_9 : decode cX6_symbolAt 9 = .ok (.iload_n 2, 1) := by decide +kernel
theorem dX6_symbolAt_10 : decode cX6_symbolAt 10 = .ok (.aload_n 0, 1) := by decide +kernel
theorem dX6_symbolAt_11 : decode cX6_symbolAt 11 = .ok (.getfield 17, 3) := by decide +kernel
theorem dX6_symbolAt_14 : decode cX6_symbolAt 14 = .ok (.iload_n 1, 1) := by decide +kernel
theorem dX6_symbolAt_15 : decode cX6_symbolAt 15 = .ok (.iaload, 1) := by decide +kernel
theorem dX6_symbolAt_16 : decode cX6_symbolAt 16 = .ok (.if_icmp .ge 17, 3) := by decide +kernel
theorem dX6_symbolAt_19 : decode cX6_symbolAt 19 = .ok (.aload_n 0, 1) := by decide +kernel
theorem dX6_symbolAt_20 : decode cX6_symbolAt 20 = .ok (.getfield 20, 3) := by decide +kernel
theorem dX6_symbolAt_23 : decode cX6_symbolAt 23 = .ok (.bipush 8, 2) := by decide +kernel
theorem dX6_symbolAt_25 : decode cX6_symbolAt 25 = .ok (.iload_n 1, 1) := by decide +kernel
theorem dX6_symbolAt_26 : decode cX6_symbolAt 26 = .ok (.imul, 1) := by decide +kernel
theorem dX6_symbolAt_27 : decode cX6_symbolAt 27 = .ok (.iload_n 2, 1) := by decide +kernel
theorem dX6_symbolAt_28 : decode cX6_symbolAt 28 = .ok (.iadd, 1) := by decide +kernel
theorem dX6_symbolAt_29 : decode cX6_symbolAt 29 = .ok (.iaload, 1) := by decide +kernel
theorem dX6_symbolAt_30 : decode cX6_symbolAt 30 = .ok (.goto 4, 3) := by decide +kernel
theorem dX6_symbolAt_33 : decode cX6_symbolAt 33 = .ok (.iconst 5, 1) := by decide +kernel
theorem dX6_symbolAt_34 : decode cX6_symbolAt 34 = .ok (.ireturn, 1) := by decide +kernel
theorem dX6_areSymbols_0 : decode cX6_areSymbols 0 = .ok (.iload_n 1, 1) := by decide +kernel
theorem dX6_areSymbols_1 : decode cX6_areSymbols 1 = .ok (.invokestatic 49, 3) := by decide +kernel
theorem dX6_areSymbols_4 : decode cX6_areSymbols 4 = .ok (.ifCond .eq 31, 3) := by decide +kernel
theorem dX6_areSymbols_7 : decode cX6_areSymbols 7 = .ok (.iload_n 1, 1) := by decide +kernel
theorem dX6_areSymbols_8 : decode cX6_areSymbols 8 = .ok (.iconst 2, 1) := by decide +kernel
theorem dX6_areSymbols_9 : decode cX6_areSymbols 9 = .ok (.if_icmp .lt 10, 3) := by decide +kernel
theorem dX6_areSymbols_12 : decode cX6_areSymbols 12 = .ok (.iload_n 3, 1) := by decide +kernel
theorem dX6_areSymbols_13 : decode cX6_areSymbols 13 = .ok (.invokestatic 53, 3) := by decide +kernel
theorem dX6_areSymbols_16 : decode cX6_areSymbols 16 = .ok (.ifCond .eq 19, 3) := by decide +kernel
theorem dX6_areSymbols_19 : decode cX6_areSymbols 19 = .ok (.iload_n 1, 1) := by decide +kernel
theorem dX6_areSymbols_20 : decode cX6_areSymbols 20 = .ok (.iconst 3, 1) := by decide +kernel
theorem dX6_areSymbols_21 : decode cX6_areSymbols 21 = .ok (.if_icmp .lt 10, 3) := by decide +kernel
theorem dX6_areSymbols_24 : decode cX6_areSymbols 24 = .ok (.iload_n 2, 1) := by decide +kernel
theorem dX6_areSymbols_25 : decode cX6_areSymbols 25 = .ok (.invokestatic 53, 3) := by decide +kernel
theorem dX6_areSymbols_28 : decode cX6_areSymbols 28 = .ok (.ifCond .eq 7, 3) := by decide +kernel
theorem dX6_areSymbols_31 : decode cX6_areSymbols 31 = .ok (.iconst 1, 1) := by decide +kernel
theorem dX6_areSymbols_32 : decode cX6_areSymbols 32 = .ok (.goto 4, 3) := by decide +kernel
theorem dX6_areSymbols_35 : decode cX6_areSymbols 35 = .ok (.iconst 0, 1) := by decide +kernel
theorem dX6_areSymbols_36 : decode cX6_areSymbols 36 = .ok (.ireturn, 1) := by decide +kernel
theorem dX6_isLevel_0 : decode cX6_isLevel 0 = .ok (.iload_n 0, 1) := by decide +kernel
theorem dX6_isLevel_1 : decode cX6_isLevel 1 = .ok (.ifCond .le 12, 3) := by decide +kernel
theorem dX6_isLevel_4 : decode cX6_isLevel 4 = .ok (.iload_n 0, 1) := by decide +kernel
theorem dX6_isLevel_5 : decode cX6_isLevel 5 = .ok (.iconst 4, 1) := by decide +kernel
theorem dX6_isLevel_6 : decode cX6_isLevel 6 = .ok (.if_icmp .ge 7, 3) := by decide +kernel
theorem dX6_isLevel_9 : decode cX6_isLevel 9 = .ok (.iconst 1, 1) := by decide +kernel
theorem dX6_isLevel_10 : decode cX6_isLevel 10 = .ok (.goto 4, 3) := by decide +kernel
theorem dX6_isLevel_13 : decode cX6_isLevel 13 = .ok (.iconst 0, 1) := by decide +kernel
theorem dX6_isLevel_14 : decode cX6_isLevel 14 = .ok (.ireturn, 1) := by decide +kernel
theorem dX6_isSymbol_0 : decode cX6_isSymbol 0 = .ok (.iload_n 0, 1) := by decide +kernel
theorem dX6_isSymbol_1 : decode cX6_isSymbol 1 = .ok (.ifCond .lt 13, 3) := by decide +kernel
theorem dX6_isSymbol_4 : decode cX6_isSymbol 4 = .ok (.iload_n 0, 1) := by decide +kernel
theorem dX6_isSymbol_5 : decode cX6_isSymbol 5 = .ok (.bipush 7, 2) := by decide +kernel
theorem dX6_isSymbol_7 : decode cX6_isSymbol 7 = .ok (.if_icmp .ge 7, 3) := by decide +kernel
theorem dX6_isSymbol_10 : decode cX6_isSymbol 10 = .ok (.iconst 1, 1) := by decide +kernel
theorem dX6_isSymbol_11 : decode cX6_isSymbol 11 = .ok (.goto 4, 3) := by decide +kernel
theorem dX6_isSymbol_14 : decode cX6_isSymbol 14 = .ok (.iconst 0, 1) := by decide +kernel
theorem dX6_isSymbol_15 : decode cX6_isSymbol 15 = .ok (.ireturn, 1) := by decide +kernel
theorem dX6_countOf_0 : decode cX6_countOf 0 = .ok (.iload_n 1, 1) := by decide +kernel
theorem dX6_countOf_1 : decode cX6_countOf 1 = .ok (.aload_n 0, 1) := by decide +kernel
theorem dX6_countOf_2 : decode cX6_countOf 2 = .ok (.getfield 7, 3) := by decide +kernel
theorem dX6_countOf_5 : decode cX6_countOf 5 = .ok (.if_icmp .lt 25, 3) := by decide +kernel
theorem dX6_countOf_8 : decode cX6_countOf 8 = .ok (.iload_n 1, 1) := by decide +kernel
theorem dX6_countOf_9 : decode cX6_countOf 9 = .ok (.aload_n 0, 1) := by decide +kernel
theorem dX6_countOf_10 : decode cX6_countOf 10 = .ok (.getfield 7, 3) := by decide +kernel
theorem dX6_countOf_13 : decode cX6_countOf 13 = .ok (.if_icmp .le 7, 3) := by decide +kernel
theorem dX6_countOf_16 : decode cX6_countOf 16 = .ok (.iconst 0, 1) := by decide +kernel
theorem dX6_countOf_17 : decode cX6_countOf 17 = .ok (.goto 12, 3) := by decide +kernel
theorem dX6_countOf_20 : decode cX6_countOf 20 = .ok (.aload_n 0, 1) := by decide +kernel
theorem dX6_countOf_21 : decode cX6_countOf 21 = .ok (.iload_n 1, 1) := by decide +kernel
theorem dX6_countOf_22 : decode cX6_countOf 22 = .ok (.iload_n 2, 1) := by decide +kernel
theorem dX6_countOf_23 : decode cX6_countOf 23 = .ok (.iload_n 3, 1) := by decide +kernel
theorem dX6_countOf_24 : decode cX6_countOf 24 = .ok (.iload 4, 2) := by decide +kernel
theorem dX6_countOf_26 : decode cX6_countOf 26 = .ok (.invokevirtual 45, 3) := by decide +kernel
theorem dX6_countOf_29 : decode cX6_countOf 29 = .ok (.ireturn, 1) := by decide +kernel
theorem dX6_countOf_30 : decode cX6_countOf 30 = .ok (.iconst 0, 1) := by decide +kernel
theorem dX6_countOf_31 : decode cX6_countOf 31 = .ok (.istore 5, 2) := by decide +kernel
theorem dX6_countOf_33 : decode cX6_countOf 33 = .ok (.iconst 0, 1) := by decide +kernel
theorem dX6_countOf_34 : decode cX6_countOf 34 = .ok (.istore 6, 2) := by decide +kernel
theorem dX6_countOf_36 : decode cX6_countOf 36 = .ok (.iload 6, 2) := by decide +kernel
theorem dX6_countOf_38 : decode cX6_countOf 38 = .ok (.bipush 7, 2) := by decide +kernel
theorem dX6_countOf_40 : decode cX6_countOf 40 = .ok (.if_icmp .ge 55, 3) := by decide +kernel
theorem dX6_countOf_43 : decode cX6_countOf 43 = .ok (.iload_n 1, 1) := by decide +kernel
theorem dX6_countOf_44 : decode cX6_countOf 44 = .ok (.iconst 1, 1) := by decide +kernel
theorem dX6_countOf_45 : decode cX6_countOf 45 = .ok (.if_icmp .ne 16, 3) := by decide +kernel
theorem dX6_countOf_48 : decode cX6_countOf 48 = .ok (.aload_n 0, 1) := by decide +kernel
theorem dX6_countOf_49 : decode cX6_countOf 49 = .ok (.iconst 2, 1) := by decide +kernel
theorem dX6_countOf_50 : decode cX6_countOf 50 = .ok (.iconst 0, 1) := by decide +kernel
theorem dX6_countOf_51 : decode cX6_countOf 51 = .ok (.iload 6, 2) := by decide +kernel
theorem dX6_countOf_53 : decode cX6_countOf 53 = .ok (.iload 4, 2) := by decide +kernel
theorem dX6_countOf_55 : decode cX6_countOf 55 = .ok (.invokevirtual 45, 3) := by decide +kernel
theorem dX6_countOf_58 : decode cX6_countOf 58 = .ok (.goto 13, 3) := by decide +kernel
theorem dX6_countOf_61 : decode cX6_countOf 61 = .ok (.aload_n 0, 1) := by decide +kernel
theorem dX6_countOf_62 : decode cX6_countOf 62 = .ok (.iconst 3, 1) := by decide +kernel
theorem dX6_countOf_63 : decode cX6_countOf 63 = .ok (.iload 6, 2) := by decide +kernel
theorem dX6_countOf_65 : decode cX6_countOf 65 = .ok (.iload_n 3, 1) := by decide +kernel
theorem dX6_countOf_66 : decode cX6_countOf 66 = .ok (.iload 4, 2) := by decide +kernel
theorem dX6_countOf_68 : decode cX6_countOf 68 = .ok (.invokevirtual 45, 3) := by decide +kernel
theorem dX6_countOf_71 : decode cX6_countOf 71 = .ok (.istore 7, 2) := by decide +kernel
theorem dX6_countOf_73 : decode cX6_countOf 73 = .ok (.iload 7, 2) := by decide +kernel
theorem dX6_countOf_75 : decode cX6_countOf 75 = .ok (.ifCond .le 10, 3) := by decide +kernel
theorem dX6_countOf_78 : decode cX6_countOf 78 = .ok (.iload 5, 2) := by decide +kernel
theorem dX6_countOf_80 : decode cX6_countOf 80 = .ok (.iconst 1, 1) := by decide +kernel
theorem dX6_countOf_81 : decode cX6_countOf 81 = .ok (.iadd, 1) := by decide +kernel
theorem dX6_countOf_82 : decode cX6_countOf 82 = .ok (.goto 5, 3) := by decide +kernel
theorem dX6_countOf_85 : decode cX6_countOf 85 = .ok (.iload 5, 2) := by decide +kernel
theorem dX6_countOf_87 : decode cX6_countOf 87 = .ok (.istore 5, 2) := by decide +kernel
theorem dX6_countOf_89 : decode cX6_countOf 89 = .ok (.iinc 6 1, 3) := by decide +kernel
theorem dX6_countOf_92 : decode cX6_countOf 92 = .ok (.goto (-56), 3) := by decide +kernel
theorem dX6_countOf_95 : decode cX6_countOf 95 = .ok (.iload 5, 2) := by decide +kernel
theorem dX6_countOf_97 : decode cX6_countOf 97 = .ok (.ireturn, 1) := by decide +kernel
theorem dX6_raw_0 : decode cX6_raw 0 = .ok (.iconst 0, 1) := by decide +kernel
theorem dX6_raw_1 : decode cX6_raw 1 = .ok (.istore 5, 2) := by decide +kernel
theorem dX6_raw_3 : decode cX6_raw 3 = .ok (.iconst 0, 1) := by decide +kernel
theorem dX6_raw_4 : decode cX6_raw 4 = .ok (.istore 6, 2) := by decide +kernel
theorem dX6_raw_6 : decode cX6_raw 6 = .ok (.iload 6, 2) := by decide +kernel
theorem dX6_raw_8 : decode cX6_raw 8 = .ok (.aload_n 0, 1) := by decide +kernel
theorem dX6_raw_9 : decode cX6_raw 9 = .ok (.getfield 38, 3) := by decide +kernel
theorem dX6_raw_12 : decode cX6_raw 12 = .ok (.if_icmp .ge 76, 3) := by decide +kernel
theorem dX6_raw_15 : decode cX6_raw 15 = .ok (.aload_n 0, 1) := by decide +kernel
theorem dX6_raw_16 : decode cX6_raw 16 = .ok (.getfield 23, 3) := by decide +kernel
theorem dX6_raw_19 : decode cX6_raw 19 = .ok (.iload 6, 2) := by decide +kernel
theorem dX6_raw_21 : decode cX6_raw 21 = .ok (.iaload, 1) := by decide +kernel
theorem dX6_raw_22 : decode cX6_raw 22 = .ok (.iload 4, 2) := by decide +kernel
theorem dX6_raw_24 : decode cX6_raw 24 = .ok (.if_icmp .ne 39, 3) := by decide +kernel
theorem dX6_raw_27 : decode cX6_raw 27 = .ok (.iload_n 1, 1) := by decide +kernel
theorem dX6_raw_28 : decode cX6_raw 28 = .ok (.iconst 2, 1) := by decide +kernel
theorem dX6_raw_29 : decode cX6_raw 29 = .ok (.if_icmp .lt 14, 3) := by decide +kernel
theorem dX6_raw_32 : decode cX6_raw 32 = .ok (.aload_n 0, 1) := by decide +kernel
theorem dX6_raw_33 : decode cX6_raw 33 = .ok (.getfield 26, 3) := by decide +kernel
theorem dX6_raw_36 : decode cX6_raw 36 = .ok (.iload 6, 2) := by decide +kernel
theorem dX6_raw_38 : decode cX6_raw 38 = .ok (.iaload, 1) := by decide +kernel
theorem dX6_raw_39 : decode cX6_raw 39 = .ok (.iload_n 3, 1) := by decide +kernel
theorem dX6_raw_40 : decode cX6_raw 40 = .ok (.if_icmp .ne 23, 3) := by decide +kernel
theorem dX6_raw_43 : decode cX6_raw 43 = .ok (.iload_n 1, 1) := by decide +kernel
theorem dX6_raw_44 : decode cX6_raw 44 = .ok (.iconst 3, 1) := by decide +kernel
theorem dX6_raw_45 : decode cX6_raw 45 = .ok (.if_icmp .lt 14, 3) := by decide +kernel
theorem dX6_raw_48 : decode cX6_raw 48 = .ok (.aload_n 0, 1) := by decide +kernel
theorem dX6_raw_49 : decode cX6_raw 49 = .ok (.getfield 29, 3) := by decide +kernel
theorem dX6_raw_52 : decode cX6_raw 52 = .ok (.iload 6, 2) := by decide +kernel
theorem dX6_raw_54 : decode cX6_raw 54 = .ok (.iaload, 1) := by decide +kernel
theorem dX6_raw_55 : decode cX6_raw 55 = .ok (.iload_n 2, 1) := by decide +kernel
theorem dX6_raw_56 : decode cX6_raw 56 = .ok (.if_icmp .ne 7, 3) := by decide +kernel
theorem dX6_raw_59 : decode cX6_raw 59 = .ok (.iconst 1, 1) := by decide +kernel
theorem dX6_raw_60 : decode cX6_raw 60 = .ok (.goto 4, 3) := by decide +kernel
theorem dX6_raw_63 : decode cX6_raw 63 = .ok (.iconst 0, 1) := by decide +kernel
theorem dX6_raw_64 : decode cX6_raw 64 = .ok (.istore 7, 2) := by decide +kernel
theorem dX6_raw_66 : decode cX6_raw 66 = .ok (.iload 7, 2) := by decide +kernel
theorem dX6_raw_68 : decode cX6_raw 68 = .ok (.ifCond .eq 10, 3) := by decide +kernel
theorem dX6_raw_71 : decode cX6_raw 71 = .ok (.iload 5, 2) := by decide +kernel
theorem dX6_raw_73 : decode cX6_raw 73 = .ok (.iconst 1, 1) := by decide +kernel
theorem dX6_raw_74 : decode cX6_raw 74 = .ok (.iadd, 1) := by decide +kernel
theorem dX6_raw_75 : decode cX6_raw 75 = .ok (.goto 5, 3) := by decide +kernel
theorem dX6_raw_78 : decode cX6_raw 78 = .ok (.iload 5, 2) := by decide +kernel
theorem dX6_raw_80 : decode cX6_raw 80 = .ok (.istore 5, 2) := by decide +kernel
theorem dX6_raw_82 : decode cX6_raw 82 = .ok (.iinc 6 1, 3) := by decide +kernel
theorem dX6_raw_85 : decode cX6_raw 85 = .ok (.goto (-79), 3) := by decide +kernel
theorem dX6_raw_88 : decode cX6_raw 88 = .ok (.iload 5, 2) := by decide +kernel
theorem dX6_raw_90 : decode cX6_raw 90 = .ok (.ireturn, 1) := by decide +kernel
theorem dX6_total_0 : decode cX6_total 0 = .ok (.aload_n 0, 1) := by decide +kernel
theorem dX6_total_1 : decode cX6_total 1 = .ok (.invokevirtual 56, 3) := by decide +kernel
theorem dX6_total_4 : decode cX6_total 4 = .ok (.aload_n 0, 1) := by decide +kernel
theorem dX6_total_5 : decode cX6_total 5 = .ok (.iload_n 1, 1) := by decide +kernel
theorem dX6_total_6 : decode cX6_total 6 = .ok (.iload_n 2, 1) := by decide +kernel
theorem dX6_total_7 : decode cX6_total 7 = .ok (.iload_n 3, 1) := by decide +kernel
theorem dX6_total_8 : decode cX6_total 8 = .ok (.invokevirtual 59, 3) := by decide +kernel
theorem dX6_total_11 : decode cX6_total 11 = .ok (.ifCond .eq 13, 3) := by decide +kernel
theorem dX6_total_14 : decode cX6_total 14 = .ok (.aload_n 0, 1) := by decide +kernel
theorem dX6_total_15 : decode cX6_total 15 = .ok (.iload_n 1, 1) := by decide +kernel
theorem dX6_total_16 : decode cX6_total 16 = .ok (.iload_n 2, 1) := by decide +kernel
theorem dX6_total_17 : decode cX6_total 17 = .ok (.iload_n 3, 1) := by decide +kernel
theorem dX6_total_18 : decode cX6_total 18 = .ok (.invokevirtual 66, 3) := by decide +kernel
theorem dX6_total_21 : decode cX6_total 21 = .ok (.goto 4, 3) := by decide +kernel
theorem dX6_total_24 : decode cX6_total 24 = .ok (.iconst 0, 1) := by decide +kernel
theorem dX6_total_25 : decode cX6_total 25 = .ok (.ireturn, 1) := by decide +kernel
theorem dX6_totalOf_0 : decode cX6_totalOf 0 = .ok (.iconst 0, 1) := by decide +kernel
theorem dX6_totalOf_1 : decode cX6_totalOf 1 = .ok (.istore 4, 2) := by decide +kernel
theorem dX6_totalOf_3 : decode cX6_totalOf 3 = .ok (.iconst 0, 1) := by decide +kernel
theorem dX6_totalOf_4 : decode cX6_totalOf 4 = .ok (.istore 5, 2) := by decide +kernel
theorem dX6_totalOf_6 : decode cX6_totalOf 6 = .ok (.iload 5, 2) := by decide +kernel
theorem dX6_totalOf_8 : decode cX6_totalOf 8 = .ok (.bipush 6, 2) := by decide +kernel
theorem dX6_totalOf_10 : decode cX6_totalOf 10 = .ok (.if_icmp .ge 23, 3) := by decide +kernel
theorem dX6_totalOf_13 : decode cX6_totalOf 13 = .ok (.iload 4, 2) := by decide +kernel
theorem dX6_totalOf_15 : decode cX6_totalOf 15 = .ok (.aload_n 0, 1) := by decide +kernel
theorem dX6_totalOf_16 : decode cX6_totalOf 16 = .ok (.iload_n 1, 1) := by decide +kernel
theorem dX6_totalOf_17 : decode cX6_totalOf 17 = .ok (.iload_n 2, 1) := by decide +kernel
theorem dX6_totalOf_18 : decode cX6_totalOf 18 = .ok (.iload_n 3, 1) := by decide +kernel
theorem dX6_totalOf_19 : decode cX6_totalOf 19 = .ok (.iload 5, 2) := by decide +kernel
theorem dX6_totalOf_21 : decode cX6_totalOf 21 = .ok (.invokevirtual 63, 3) := by decide +kernel
theorem dX6_totalOf_24 : decode cX6_totalOf 24 = .ok (.iadd, 1) := by decide +kernel
theorem dX6_totalOf_25 : decode cX6_totalOf 25 = .ok (.istore 4, 2) := by decide +kernel
theorem dX6_totalOf_27 : decode cX6_totalOf 27 = .ok (.iinc 5 1, 3) := by decide +kernel
theorem dX6_totalOf_30 : decode cX6_totalOf 30 = .ok (.goto (-24), 3) := by decide +kernel
theorem dX6_totalOf_33 : decode cX6_totalOf 33 = .ok (.iload 4, 2) := by decide +kernel
theorem dX6_totalOf_35 : decode cX6_totalOf 35 = .ok (.ireturn, 1) := by decide +kernel
theorem dX6_kinds_0 : decode cX6_kinds 0 = .ok (.aload_n 0, 1) := by decide +kernel
theorem dX6_kinds_1 : decode cX6_kinds 1 = .ok (.invokevirtual 56, 3) := by decide +kernel
theorem dX6_kinds_4 : decode cX6_kinds 4 = .ok (.aload_n 0, 1) := by decide +kernel
theorem dX6_kinds_5 : decode cX6_kinds 5 = .ok (.iload_n 1, 1) := by decide +kernel
theorem dX6_kinds_6 : decode cX6_kinds 6 = .ok (.iload_n 2, 1) := by decide +kernel
theorem dX6_kinds_7 : decode cX6_kinds 7 = .ok (.iload_n 3, 1) := by decide +kernel
theorem dX6_kinds_8 : decode cX6_kinds 8 = .ok (.invokevirtual 59, 3) := by decide +kernel
theorem dX6_kinds_11 : decode cX6_kinds 11 = .ok (.ifCond .eq 13, 3) := by decide +kernel
theorem dX6_kinds_14 : decode cX6_kinds 14 = .ok (.aload_n 0, 1) := by decide +kernel
theorem dX6_kinds_15 : decode cX6_kinds 15 = .ok (.iload_n 1, 1) := by decide +kernel
theorem dX6_kinds_16 : decode cX6_kinds 16 = .ok (.iload_n 2, 1) := by decide +kernel
theorem dX6_kinds_17 : decode cX6_kinds 17 = .ok (.iload_n 3, 1) := by decide +kernel
theorem dX6_kinds_18 : decode cX6_kinds 18 = .ok (.invokevirtual 70, 3) := by decide +kernel
theorem dX6_kinds_21 : decode cX6_kinds 21 = .ok (.goto 4, 3) := by decide +kernel
theorem dX6_kinds_24 : decode cX6_kinds 24 = .ok (.iconst 0, 1) := by decide +kernel
theorem dX6_kinds_25 : decode cX6_kinds 25 = .ok (.ireturn, 1) := by decide +kernel
theorem dX6_kindsOf_0 : decode cX6_kindsOf 0 = .ok (.iconst 0, 1) := by decide +kernel
theorem dX6_kindsOf_1 : decode cX6_kindsOf 1 = .ok (.istore 4, 2) := by decide +kernel
theorem dX6_kindsOf_3 : decode cX6_kindsOf 3 = .ok (.iconst 0, 1) := by decide +kernel
theorem dX6_kindsOf_4 : decode cX6_kindsOf 4 = .ok (.istore 5, 2) := by decide +kernel
theorem dX6_kindsOf_6 : decode cX6_kindsOf 6 = .ok (.iload 5, 2) := by decide +kernel
theorem dX6_kindsOf_8 : decode cX6_kindsOf 8 = .ok (.bipush 6, 2) := by decide +kernel
theorem dX6_kindsOf_10 : decode cX6_kindsOf 10 = .ok (.if_icmp .ge 32, 3) := by decide +kernel
theorem dX6_kindsOf_13 : decode cX6_kindsOf 13 = .ok (.aload_n 0, 1) := by decide +kernel
theorem dX6_kindsOf_14 : decode cX6_kindsOf 14 = .ok (.iload_n 1, 1) := by decide +kernel
theorem dX6_kindsOf_15 : decode cX6_kindsOf 15 = .ok (.iload_n 2, 1) := by decide +kernel
theorem dX6_kindsOf_16 : decode cX6_kindsOf 16 = .ok (.iload_n 3, 1) := by decide +kernel
theorem dX6_kindsOf_17 : decode cX6_kindsOf 17 = .ok (.iload 5, 2) := by decide +kernel
theorem dX6_kindsOf_19 : decode cX6_kindsOf 19 = .ok (.invokevirtual 63, 3) := by decide +kernel
theorem dX6_kindsOf_22 : decode cX6_kindsOf 22 = .ok (.ifCond .le 10, 3) := by decide +kernel
theorem dX6_kindsOf_25 : decode cX6_kindsOf 25 = .ok (.iload 4, 2) := by decide +kernel
theorem dX6_kindsOf_27 : decode cX6_kindsOf 27 = .ok (.iconst 1, 1) := by decide +kernel
theorem dX6_kindsOf_28 : decode cX6_kindsOf 28 = .ok (.iadd, 1) := by decide +kernel
theorem dX6_kindsOf_29 : decode cX6_kindsOf 29 = .ok (.goto 5, 3) := by decide +kernel
theorem dX6_kindsOf_32 : decode cX6_kindsOf 32 = .ok (.iload 4, 2) := by decide +kernel
theorem dX6_kindsOf_34 : decode cX6_kindsOf 34 = .ok (.istore 4, 2) := by decide +kernel
theorem dX6_kindsOf_36 : decode cX6_kindsOf 36 = .ok (.iinc 5 1, 3) := by decide +kernel
theorem dX6_kindsOf_39 : decode cX6_kindsOf 39 = .ok (.goto (-33), 3) := by decide +kernel
theorem dX6_kindsOf_42 : decode cX6_kindsOf 42 = .ok (.iload 4, 2) := by decide +kernel
theorem dX6_kindsOf_44 : decode cX6_kindsOf 44 = .ok (.ireturn, 1) := by decide +kernel
theorem dX6_grams_0 : decode cX6_grams 0 = .ok (.aload_n 0, 1) := by decide +kernel
theorem dX6_grams_1 : decode cX6_grams 1 = .ok (.invokevirtual 56, 3) := by decide +kernel
theorem dX6_grams_4 : decode cX6_grams 4 = .ok (.iload_n 1, 1) := by decide +kernel
theorem dX6_grams_5 : decode cX6_grams 5 = .ok (.invokestatic 49, 3) := by decide +kernel
theorem dX6_grams_8 : decode cX6_grams 8 = .ok (.ifCond .eq 12, 3) := by decide +kernel
theorem dX6_grams_11 : decode cX6_grams 11 = .ok (.aload_n 0, 1) := by decide +kernel
theorem dX6_grams_12 : decode cX6_grams 12 = .ok (.iload_n 1, 1) := by decide +kernel
theorem dX6_grams_13 : decode cX6_grams 13 = .ok (.iconst (-1), 1) := by decide +kernel
theorem dX6_grams_14 : decode cX6_grams 14 = .ok (.invokevirtual 73, 3) := by decide +kernel
theorem dX6_grams_17 : decode cX6_grams 17 = .ok (.goto 4, 3) := by decide +kernel
theorem dX6_grams_20 : decode cX6_grams 20 = .ok (.iconst (-1), 1) := by decide +kernel
theorem dX6_grams_21 : decode cX6_grams 21 = .ok (.ireturn, 1) := by decide +kernel
theorem dX6_gramOf_0 : decode cX6_gramOf 0 = .ok (.iconst 0, 1) := by decide +kernel
theorem dX6_gramOf_1 : decode cX6_gramOf 1 = .ok (.istore_n 3, 1) := by decide +kernel
theorem dX6_gramOf_2 : decode cX6_gramOf 2 = .ok (.iload_n 1, 1) := by decide +kernel
theorem dX6_gramOf_3 : decode cX6_gramOf 3 = .ok (.iconst 1, 1) := by decide +kernel
theorem dX6_gramOf_4 : decode cX6_gramOf 4 = .ok (.if_icmp .ne 8, 3) := by decide +kernel
theorem dX6_gramOf_7 : decode cX6_gramOf 7 = .ok (.bipush 7, 2) := by decide +kernel
theorem dX6_gramOf_9 : decode cX6_gramOf 9 = .ok (.goto 16, 3) := by decide +kernel
theorem dX6_gramOf_12 : decode cX6_gramOf 12 = .ok (.iload_n 1, 1) := by decide +kernel
theorem dX6_gramOf_13 : decode cX6_gramOf 13 = .ok (.iconst 2, 1) := by decide +kernel
theorem dX6_gramOf_14 : decode cX6_gramOf 14 = .ok (.if_icmp .ne 8, 3) := by decide +kernel
theorem dX6_gramOf_17 : decode cX6_gramOf 17 = .ok (.bipush 49, 2) := by decide +kernel
theorem dX6_gramOf_19 : decode cX6_gramOf 19 = .ok (.goto 6, 3) := by decide +kernel
theorem dX6_gramOf_22 : decode cX6_gramOf 22 = .ok (.sipush 343, 3) := by decide +kernel
theorem dX6_gramOf_25 : decode cX6_gramOf 25 = .ok (.istore 4, 2) := by decide +kernel
theorem dX6_gramOf_27 : decode cX6_gramOf 27 = .ok (.iconst 0, 1) := by decide +kernel
theorem dX6_gramOf_28 : decode cX6_gramOf 28 = .ok (.istore 5, 2) := by decide +kernel
theorem dX6_gramOf_30 : decode cX6_gramOf 30 = .ok (.iload 5, 2) := by decide +kernel
theorem dX6_gramOf_32 : decode cX6_gramOf 32 = .ok (.iload 4, 2) := by decide +kernel
theorem dX6_gramOf_34 : decode cX6_gramOf 34 = .ok (.if_icmp .ge 47, 3) := by decide +kernel
theorem dX6_gramOf_37 : decode cX6_gramOf 37 = .ok (.aload_n 0, 1) := by decide +kernel
theorem dX6_gramOf_38 : decode cX6_gramOf 38 = .ok (.iload_n 1, 1) := by decide +kernel
theorem dX6_gramOf_39 : decode cX6_gramOf 39 = .ok (.iload 5, 2) := by decide +kernel
theorem dX6_gramOf_41 : decode cX6_gramOf 41 = .ok (.bipush 49, 2) := by decide +kernel
theorem dX6_gramOf_43 : decode cX6_gramOf 43 = .ok (.idiv, 1) := by decide +kernel
theorem dX6_gramOf_44 : decode cX6_gramOf 44 = .ok (.iload 5, 2) := by decide +kernel
theorem dX6_gramOf_46 : decode cX6_gramOf 46 = .ok (.bipush 7, 2) := by decide +kernel
theorem dX6_gramOf_48 : decode cX6_gramOf 48 = .ok (.idiv, 1) := by decide +kernel
theorem dX6_gramOf_49 : decode cX6_gramOf 49 = .ok (.bipush 7, 2) := by decide +kernel
theorem dX6_gramOf_51 : decode cX6_gramOf 51 = .ok (.irem, 1) := by decide +kernel
theorem dX6_gramOf_52 : decode cX6_gramOf 52 = .ok (.iload 5, 2) := by decide +kernel
theorem dX6_gramOf_54 : decode cX6_gramOf 54 = .ok (.bipush 7, 2) := by decide +kernel
theorem dX6_gramOf_56 : decode cX6_gramOf 56 = .ok (.irem, 1) := by decide +kernel
theorem dX6_gramOf_57 : decode cX6_gramOf 57 = .ok (.invokevirtual 63, 3) := by decide +kernel
theorem dX6_gramOf_60 : decode cX6_gramOf 60 = .ok (.ifCond .le 15, 3) := by decide +kernel
theorem dX6_gramOf_63 : decode cX6_gramOf 63 = .ok (.iload_n 3, 1) := by decide +kernel
theorem dX6_gramOf_64 : decode cX6_gramOf 64 = .ok (.iload_n 2, 1) := by decide +kernel
theorem dX6_gramOf_65 : decode cX6_gramOf 65 = .ok (.if_icmp .ne 6, 3) := by decide +kernel
theorem dX6_gramOf_68 : decode cX6_gramOf 68 = .ok (.iload 5, 2) := by decide +kernel
theorem dX6_gramOf_70 : decode cX6_gramOf 70 = .ok (.ireturn, 1) := by decide +kernel
theorem dX6_gramOf_71 : decode cX6_gramOf 71 = .ok (.iload_n 3, 1) := by decide +kernel
theorem dX6_gramOf_72 : decode cX6_gramOf 72 = .ok (.iconst 1, 1) := by decide +kernel
theorem dX6_gramOf_73 : decode cX6_gramOf 73 = .ok (.iadd, 1) := by decide +kernel
theorem dX6_gramOf_74 : decode cX6_gramOf 74 = .ok (.istore_n 3, 1) := by decide +kernel
theorem dX6_gramOf_75 : decode cX6_gramOf 75 = .ok (.iinc 5 1, 3) := by decide +kernel
theorem dX6_gramOf_78 : decode cX6_gramOf 78 = .ok (.goto (-48), 3) := by decide +kernel
theorem dX6_gramOf_81 : decode cX6_gramOf 81 = .ok (.iload_n 2, 1) := by decide +kernel
theorem dX6_gramOf_82 : decode cX6_gramOf 82 = .ok (.ifCond .ge 7, 3) := by decide +kernel
theorem dX6_gramOf_85 : decode cX6_gramOf 85 = .ok (.iload_n 3, 1) := by decide +kernel
theorem dX6_gramOf_86 : decode cX6_gramOf 86 = .ok (.goto 4, 3) := by decide +kernel
theorem dX6_gramOf_89 : decode cX6_gramOf 89 = .ok (.iconst (-1), 1) := by decide +kernel
theorem dX6_gramOf_90 : decode cX6_gramOf 90 = .ok (.ireturn, 1) := by decide +kernel
theorem dX6_gram_0 : decode cX6_gram 0 = .ok (.aload_n 0, 1) := by decide +kernel
theorem dX6_gram_1 : decode cX6_gram 1 = .ok (.invokevirtual 56, 3) := by decide +kernel
theorem dX6_gram_4 : decode cX6_gram 4 = .ok (.iload_n 1, 1) := by decide +kernel
theorem dX6_gram_5 : decode cX6_gram 5 = .ok (.invokestatic 49, 3) := by decide +kernel
theorem dX6_gram_8 : decode cX6_gram 8 = .ok (.ifCond .eq 16, 3) := by decide +kernel
theorem dX6_gram_11 : decode cX6_gram 11 = .ok (.iload_n 2, 1) := by decide +kernel
theorem dX6_gram_12 : decode cX6_gram 12 = .ok (.ifCond .lt 12, 3) := by decide +kernel
theorem dX6_gram_15 : decode cX6_gram 15 = .ok (.aload_n 0, 1) := by decide +kernel
theorem dX6_gram_16 : decode cX6_gram 16 = .ok (.iload_n 1, 1) := by decide +kernel
theorem dX6_gram_17 : decode cX6_gram 17 = .ok (.iload_n 2, 1) := by decide +kernel
theorem dX6_gram_18 : decode cX6_gram 18 = .ok (.invokevirtual 73, 3) := by decide +kernel
theorem dX6_gram_21 : decode cX6_gram 21 = .ok (.goto 4, 3) := by decide +kernel
theorem dX6_gram_24 : decode cX6_gram 24 = .ok (.iconst (-1), 1) := by decide +kernel
theorem dX6_gram_25 : decode cX6_gram 25 = .ok (.ireturn, 1) := by decide +kernel
theorem dX6_top_0 : decode cX6_top 0 = .ok (.iload_n 1, 1) := by decide +kernel
theorem dX6_top_1 : decode cX6_top 1 = .ok (.invokestatic 53, 3) := by decide +kernel
theorem dX6_top_4 : decode cX6_top 4 = .ok (.ifCond .eq 17, 3) := by decide +kernel
theorem dX6_top_7 : decode cX6_top 7 = .ok (.iload_n 2, 1) := by decide +kernel
theorem dX6_top_8 : decode cX6_top 8 = .ok (.invokestatic 53, 3) := by decide +kernel
theorem dX6_top_11 : decode cX6_top 11 = .ok (.ifCond .eq 10, 3) := by decide +kernel
theorem dX6_top_14 : decode cX6_top 14 = .ok (.iload_n 3, 1) := by decide +kernel
theorem dX6_top_15 : decode cX6_top 15 = .ok (.invokestatic 87, 3) := by decide +kernel
theorem dX6_top_18 : decode cX6_top 18 = .ok (.ifCond .ne 7, 3) := by decide +kernel
theorem dX6_top_21 : decode cX6_top 21 = .ok (.ldc2_w 90, 3) := by decide +kernel
theorem dX6_top_24 : decode cX6_top 24 = .ok (.lreturn, 1) := by decide +kernel
theorem dX6_top_25 : decode cX6_top 25 = .ok (.aload_n 0, 1) := by decide +kernel
theorem dX6_top_26 : decode cX6_top 26 = .ok (.invokevirtual 56, 3) := by decide +kernel
theorem dX6_top_29 : decode cX6_top 29 = .ok (.aload_n 0, 1) := by decide +kernel
theorem dX6_top_30 : decode cX6_top 30 = .ok (.iload_n 1, 1) := by decide +kernel
theorem dX6_top_31 : decode cX6_top 31 = .ok (.iload_n 2, 1) := by decide +kernel
theorem dX6_top_32 : decode cX6_top 32 = .ok (.iload_n 3, 1) := by decide +kernel
theorem dX6_top_33 : decode cX6_top 33 = .ok (.invokevirtual 92, 3) := by decide +kernel
theorem dX6_top_36 : decode cX6_top 36 = .ok (.aload_n 0, 1) := by decide +kernel
theorem dX6_top_37 : decode cX6_top 37 = .ok (.getfield 76, 3) := by decide +kernel
theorem dX6_top_40 : decode cX6_top 40 = .ok (.lreturn, 1) := by decide +kernel
theorem dX6_isWord_0 : decode cX6_isWord 0 = .ok (.iload_n 0, 1) := by decide +kernel
theorem dX6_isWord_1 : decode cX6_isWord 1 = .ok (.ifCond .lt 13, 3) := by decide +kernel
theorem dX6_isWord_4 : decode cX6_isWord 4 = .ok (.iload_n 0, 1) := by decide +kernel
theorem dX6_isWord_5 : decode cX6_isWord 5 = .ok (.bipush 6, 2) := by decide +kernel
theorem dX6_isWord_7 : decode cX6_isWord 7 = .ok (.if_icmp .ge 7, 3) := by decide +kernel
theorem dX6_isWord_10 : decode cX6_isWord 10 = .ok (.iconst 1, 1) := by decide +kernel
theorem dX6_isWord_11 : decode cX6_isWord 11 = .ok (.goto 4, 3) := by decide +kernel
theorem dX6_isWord_14 : decode cX6_isWord 14 = .ok (.iconst 0, 1) := by decide +kernel
theorem dX6_isWord_15 : decode cX6_isWord 15 = .ok (.ireturn, 1) := by decide +kernel
theorem dX6_reckon_0 : decode cX6_reckon 0 = .ok (.aload_n 0, 1) := by decide +kernel
theorem dX6_reckon_1 : decode cX6_reckon 1 = .ok (.lconst 1, 1) := by decide +kernel
theorem dX6_reckon_2 : decode cX6_reckon 2 = .ok (.putfield 76, 3) := by decide +kernel
theorem dX6_reckon_5 : decode cX6_reckon 5 = .ok (.aload_n 0, 1) := by decide +kernel
theorem dX6_reckon_6 : decode cX6_reckon 6 = .ok (.ldc2_w 80, 3) := by decide +kernel
theorem dX6_reckon_9 : decode cX6_reckon 9 = .ok (.putfield 82, 3) := by decide +kernel
theorem dX6_reckon_12 : decode cX6_reckon 12 = .ok (.iconst 1, 1) := by decide +kernel
theorem dX6_reckon_13 : decode cX6_reckon 13 = .ok (.istore 4, 2) := by decide +kernel
theorem dX6_reckon_15 : decode cX6_reckon 15 = .ok (.iload 4, 2) := by decide +kernel
theorem dX6_reckon_17 : decode cX6_reckon 17 = .ok (.aload_n 0, 1) := by decide +kernel
theorem dX6_reckon_18 : decode cX6_reckon 18 = .ok (.getfield 7, 3) := by decide +kernel
theorem dX6_reckon_21 : decode cX6_reckon 21 = .ok (.if_icmp .gt 106, 3) := by decide +kernel
theorem dX6_reckon_24 : decode cX6_reckon 24 = .ok (.aload_n 0, 1) := by decide +kernel
theorem dX6_reckon_25 : decode cX6_reckon 25 = .ok (.iload 4, 2) := by decide +kernel
theorem dX6_reckon_27 : decode cX6_reckon 27 = .ok (.iload_n 1, 1) := by decide +kernel
theorem dX6_reckon_28 : decode cX6_reckon 28 = .ok (.iload_n 2, 1) := by decide +kernel
theorem dX6_reckon_29 : decode cX6_reckon 29 = .ok (.invokevirtual 66, 3) := by decide +kernel
theorem dX6_reckon_32 : decode cX6_reckon 32 = .ok (.istore 5, 2) := by decide +kernel
theorem dX6_reckon_34 : decode cX6_reckon 34 = .ok (.iload 5, 2) := by decide +kernel
theorem dX6_reckon_36 : decode cX6_reckon 36 = .ok (.ifCond .le 85, 3) := by decide +kernel
theorem dX6_reckon_39 : decode cX6_reckon 39 = .ok (.aload_n 0, 1) := by decide +kernel
theorem dX6_reckon_40 : decode cX6_reckon 40 = .ok (.getfield 13, 3) := by decide +kernel
theorem dX6_reckon_43 : decode cX6_reckon 43 = .ok (.iload 4, 2) := by decide +kernel
theorem dX6_reckon_45 : decode cX6_reckon 45 = .ok (.iaload, 1) := by decide +kernel
theorem dX6_reckon_46 : decode cX6_reckon 46 = .ok (.istore 6, 2) := by decide +kernel
theorem dX6_reckon_48 : decode cX6_reckon 48 = .ok (.bipush 8, 2) := by decide +kernel
theorem dX6_reckon_50 : decode cX6_reckon 50 = .ok (.aload_n 0, 1) := by decide +kernel
theorem dX6_reckon_51 : decode cX6_reckon 51 = .ok (.iload 4, 2) := by decide +kernel
theorem dX6_reckon_53 : decode cX6_reckon 53 = .ok (.iload_n 1, 1) := by decide +kernel
theorem dX6_reckon_54 : decode cX6_reckon 54 = .ok (.iload_n 2, 1) := by decide +kernel
theorem dX6_reckon_55 : decode cX6_reckon 55 = .ok (.iload_n 3, 1) := by decide +kernel
theorem dX6_reckon_56 : decode cX6_reckon 56 = .ok (.invokevirtual 63, 3) := by decide +kernel
theorem dX6_reckon_59 : decode cX6_reckon 59 = .ok (.imul, 1) := by decide +kernel
theorem dX6_reckon_60 : decode cX6_reckon 60 = .ok (.iload 6, 2) := by decide +kernel
theorem dX6_reckon_62 : decode cX6_reckon 62 = .ok (.isub, 1) := by decide +kernel
theorem dX6_reckon_63 : decode cX6_reckon 63 = .ok (.istore 7, 2) := by decide +kernel
theorem dX6_reckon_65 : decode cX6_reckon 65 = .ok (.aload_n 0, 1) := by decide +kernel
theorem dX6_reckon_66 : decode cX6_reckon 66 = .ok (.iload 7, 2) := by decide +kernel
theorem dX6_reckon_68 : decode cX6_reckon 68 = .ok (.ifCond .le 8, 3) := by decide +kernel
theorem dX6_reckon_71 : decode cX6_reckon 71 = .ok (.iload 7, 2) := by decide +kernel
theorem dX6_reckon_73 : decode cX6_reckon 73 = .ok (.goto 4, 3) := by decide +kernel
theorem dX6_reckon_76 : decode cX6_reckon 76 = .ok (.iconst 0, 1) := by decide +kernel
theorem dX6_reckon_77 : decode cX6_reckon 77 = .ok (.i2l, 1) := by decide +kernel
theorem dX6_reckon_78 : decode cX6_reckon 78 = .ok (.aload_n 0, 1) := by decide +kernel
theorem dX6_reckon_79 : decode cX6_reckon 79 = .ok (.getfield 82, 3) := by decide +kernel
theorem dX6_reckon_82 : decode cX6_reckon 82 = .ok (.lmul, 1) := by decide +kernel
theorem dX6_reckon_83 : decode cX6_reckon 83 = .ok (.iload 6, 2) := by decide +kernel
theorem dX6_reckon_85 : decode cX6_reckon 85 = .ok (.i2l, 1) := by decide +kernel
theorem dX6_reckon_86 : decode cX6_reckon 86 = .ok (.aload_n 0, 1) := by decide +kernel
theorem dX6_reckon_87 : decode cX6_reckon 87 = .ok (.iload 4, 2) := by decide +kernel
theorem dX6_reckon_89 : decode cX6_reckon 89 = .ok (.iload_n 1, 1) := by decide +kernel
theorem dX6_reckon_90 : decode cX6_reckon 90 = .ok (.iload_n 2, 1) := by decide +kernel
theorem dX6_reckon_91 : decode cX6_reckon 91 = .ok (.invokevirtual 70, 3) := by decide +kernel
theorem dX6_reckon_94 : decode cX6_reckon 94 = .ok (.i2l, 1) := by decide +kernel
theorem dX6_reckon_95 : decode cX6_reckon 95 = .ok (.lmul, 1) := by decide +kernel
theorem dX6_reckon_96 : decode cX6_reckon 96 = .ok (.aload_n 0, 1) := by decide +kernel
theorem dX6_reckon_97 : decode cX6_reckon 97 = .ok (.getfield 76, 3) := by decide +kernel
theorem dX6_reckon_100 : decode cX6_reckon 100 = .ok (.lmul, 1) := by decide +kernel
theorem dX6_reckon_101 : decode cX6_reckon 101 = .ok (.ladd, 1) := by decide +kernel
theorem dX6_reckon_102 : decode cX6_reckon 102 = .ok (.putfield 76, 3) := by decide +kernel
theorem dX6_reckon_105 : decode cX6_reckon 105 = .ok (.aload_n 0, 1) := by decide +kernel
theorem dX6_reckon_106 : decode cX6_reckon 106 = .ok (.aload_n 0, 1) := by decide +kernel
theorem dX6_reckon_107 : decode cX6_reckon 107 = .ok (.getfield 82, 3) := by decide +kernel
theorem dX6_reckon_110 : decode cX6_reckon 110 = .ok (.ldc2_w 85, 3) := by decide +kernel
theorem dX6_reckon_113 : decode cX6_reckon 113 = .ok (.lmul, 1) := by decide +kernel
theorem dX6_reckon_114 : decode cX6_reckon 114 = .ok (.iload 5, 2) := by decide +kernel
theorem dX6_reckon_116 : decode cX6_reckon 116 = .ok (.i2l, 1) := by decide +kernel
theorem dX6_reckon_117 : decode cX6_reckon 117 = .ok (.lmul, 1) := by decide +kernel
theorem dX6_reckon_118 : decode cX6_reckon 118 = .ok (.putfield 82, 3) := by decide +kernel
theorem dX6_reckon_121 : decode cX6_reckon 121 = .ok (.iinc 4 1, 3) := by decide +kernel
theorem dX6_reckon_124 : decode cX6_reckon 124 = .ok (.goto (-109), 3) := by decide +kernel
theorem dX6_reckon_127 : decode cX6_reckon 127 = .ok (.aload_n 0, 1) := by decide +kernel
theorem dX6_reckon_128 : decode cX6_reckon 128 = .ok (.getfield 76, 3) := by decide +kernel
theorem dX6_reckon_131 : decode cX6_reckon 131 = .ok (.lstore 4, 2) := by decide +kernel
theorem dX6_reckon_133 : decode cX6_reckon 133 = .ok (.aload_n 0, 1) := by decide +kernel
theorem dX6_reckon_134 : decode cX6_reckon 134 = .ok (.getfield 82, 3) := by decide +kernel
theorem dX6_reckon_137 : decode cX6_reckon 137 = .ok (.lstore 6, 2) := by decide +kernel
theorem dX6_reckon_139 : decode cX6_reckon 139 = .ok (.lload 6, 2) := by decide +kernel
theorem dX6_reckon_141 : decode cX6_reckon 141 = .ok (.lconst 0, 1) := by decide +kernel
theorem dX6_reckon_142 : decode cX6_reckon 142 = .ok (.lcmp, 1) := by decide +kernel
theorem dX6_reckon_143 : decode cX6_reckon 143 = .ok (.ifCond .eq 21, 3) := by decide +kernel
theorem dX6_reckon_146 : decode cX6_reckon 146 = .ok (.lload 4, 2) := by decide +kernel
theorem dX6_reckon_148 : decode cX6_reckon 148 = .ok (.lload 6, 2) := by decide +kernel
theorem dX6_reckon_150 : decode cX6_reckon 150 = .ok (.lrem, 1) := by decide +kernel
theorem dX6_reckon_151 : decode cX6_reckon 151 = .ok (.lstore 8, 2) := by decide +kernel
theorem dX6_reckon_153 : decode cX6_reckon 153 = .ok (.lload 6, 2) := by decide +kernel
theorem dX6_reckon_155 : decode cX6_reckon 155 = .ok (.lstore 4, 2) := by decide +kernel
theorem dX6_reckon_157 : decode cX6_reckon 157 = .ok (.lload 8, 2) := by decide +kernel
theorem dX6_reckon_159 : decode cX6_reckon 159 = .ok (.lstore 6, 2) := by decide +kernel
theorem dX6_reckon_161 : decode cX6_reckon 161 = .ok (.goto (-22), 3) := by decide +kernel
theorem dX6_reckon_164 : decode cX6_reckon 164 = .ok (.aload_n 0, 1) := by decide +kernel
theorem dX6_reckon_165 : decode cX6_reckon 165 = .ok (.aload_n 0, 1) := by decide +kernel
theorem dX6_reckon_166 : decode cX6_reckon 166 = .ok (.getfield 76, 3) := by decide +kernel
theorem dX6_reckon_169 : decode cX6_reckon 169 = .ok (.lload 4, 2) := by decide +kernel
theorem dX6_reckon_171 : decode cX6_reckon 171 = .ok (.ldiv, 1) := by decide +kernel
theorem dX6_reckon_172 : decode cX6_reckon 172 = .ok (.putfield 76, 3) := by decide +kernel
theorem dX6_reckon_175 : decode cX6_reckon 175 = .ok (.aload_n 0, 1) := by decide +kernel
theorem dX6_reckon_176 : decode cX6_reckon 176 = .ok (.aload_n 0, 1) := by decide +kernel
theorem dX6_reckon_177 : decode cX6_reckon 177 = .ok (.getfield 82, 3) := by decide +kernel
theorem dX6_reckon_180 : decode cX6_reckon 180 = .ok (.lload 4, 2) := by decide +kernel
theorem dX6_reckon_182 : decode cX6_reckon 182 = .ok (.ldiv, 1) := by decide +kernel
theorem dX6_reckon_183 : decode cX6_reckon 183 = .ok (.putfield 82, 3) := by decide +kernel
theorem dX6_reckon_186 : decode cX6_reckon 186 = .ok (.return_, 1) := by decide +kernel
theorem dX6_bottom_0 : decode cX6_bottom 0 = .ok (.iload_n 1, 1) := by decide +kernel
theorem dX6_bottom_1 : decode cX6_bottom 1 = .ok (.invokestatic 53, 3) := by decide +kernel
theorem dX6_bottom_4 : decode cX6_bottom 4 = .ok (.ifCond .eq 17, 3) := by decide +kernel
theorem dX6_bottom_7 : decode cX6_bottom 7 = .ok (.iload_n 2, 1) := by decide +kernel
theorem dX6_bottom_8 : decode cX6_bottom 8 = .ok (.invokestatic 53, 3) := by decide +kernel
theorem dX6_bottom_11 : decode cX6_bottom 11 = .ok (.ifCond .eq 10, 3) := by decide +kernel
theorem dX6_bottom_14 : decode cX6_bottom 14 = .ok (.iload_n 3, 1) := by decide +kernel
theorem dX6_bottom_15 : decode cX6_bottom 15 = .ok (.invokestatic 87, 3) := by decide +kernel
theorem dX6_bottom_18 : decode cX6_bottom 18 = .ok (.ifCond .ne 7, 3) := by decide +kernel
theorem dX6_bottom_21 : decode cX6_bottom 21 = .ok (.ldc2_w 90, 3) := by decide +kernel
theorem dX6_bottom_24 : decode cX6_bottom 24 = .ok (.lreturn, 1) := by decide +kernel
theorem dX6_bottom_25 : decode cX6_bottom 25 = .ok (.aload_n 0, 1) := by decide +kernel
theorem dX6_bottom_26 : decode cX6_bottom 26 = .ok (.invokevirtual 56, 3) := by decide +kernel
theorem dX6_bottom_29 : decode cX6_bottom 29 = .ok (.aload_n 0, 1) := by decide +kernel
theorem dX6_bottom_30 : decode cX6_bottom 30 = .ok (.iload_n 1, 1) := by decide +kernel
theorem dX6_bottom_31 : decode cX6_bottom 31 = .ok (.iload_n 2, 1) := by decide +kernel
theorem dX6_bottom_32 : decode cX6_bottom 32 = .ok (.iload_n 3, 1) := by decide +kernel
theorem dX6_bottom_33 : decode cX6_bottom 33 = .ok (.invokevirtual 92, 3) := by decide +kernel
theorem dX6_bottom_36 : decode cX6_bottom 36 = .ok (.aload_n 0, 1) := by decide +kernel
theorem dX6_bottom_37 : decode cX6_bottom 37 = .ok (.getfield 82, 3) := by decide +kernel
theorem dX6_bottom_40 : decode cX6_bottom 40 = .ok (.lreturn, 1) := by decide +kernel
theorem dX6_likeliest_0 : decode cX6_likeliest 0 = .ok (.iload_n 1, 1) := by decide +kernel
theorem dX6_likeliest_1 : decode cX6_likeliest 1 = .ok (.invokestatic 53, 3) := by decide +kernel
theorem dX6_likeliest_4 : decode cX6_likeliest 4 = .ok (.ifCond .eq 10, 3) := by decide +kernel
theorem dX6_likeliest_7 : decode cX6_likeliest 7 = .ok (.iload_n 2, 1) := by decide +kernel
theorem dX6_likeliest_8 : decode cX6_likeliest 8 = .ok (.invokestatic 53, 3) := by decide +kernel
theorem dX6_likeliest_11 : decode cX6_likeliest 11 = .ok (.ifCond .ne 5, 3) := by decide +kernel
theorem dX6_likeliest_14 : decode cX6_likeliest 14 = .ok (.iconst (-1), 1) := by decide +kernel
theorem dX6_likeliest_15 : decode cX6_likeliest 15 = .ok (.ireturn, 1) := by decide +kernel
theorem dX6_likeliest_16 : decode cX6_likeliest 16 = .ok (.aload_n 0, 1) := by decide +kernel
theorem dX6_likeliest_17 : decode cX6_likeliest 17 = .ok (.invokevirtual 56, 3) := by decide +kernel
theorem dX6_likeliest_20 : decode cX6_likeliest 20 = .ok (.iconst 0, 1) := by decide +kernel
theorem dX6_likeliest_21 : decode cX6_likeliest 21 = .ok (.istore_n 3, 1) := by decide +kernel
theorem dX6_likeliest_22 : decode cX6_likeliest 22 = .ok (.aload_n 0, 1) := by decide +kernel
theorem dX6_likeliest_23 : decode cX6_likeliest 23 = .ok (.iload_n 1, 1) := by decide +kernel
theorem dX6_likeliest_24 : decode cX6_likeliest 24 = .ok (.iload_n 2, 1) := by decide +kernel
theorem dX6_likeliest_25 : decode cX6_likeliest 25 = .ok (.iconst 0, 1) := by decide +kernel
theorem dX6_likeliest_26 : decode cX6_likeliest 26 = .ok (.invokevirtual 92, 3) := by decide +kernel
theorem dX6_likeliest_29 : decode cX6_likeliest 29 = .ok (.aload_n 0, 1) := by decide +kernel
theorem dX6_likeliest_30 : decode cX6_likeliest 30 = .ok (.getfield 76, 3) := by decide +kernel
theorem dX6_likeliest_33 : decode cX6_likeliest 33 = .ok (.lstore 4, 2) := by decide +kernel
theorem dX6_likeliest_35 : decode cX6_likeliest 35 = .ok (.aload_n 0, 1) := by decide +kernel
theorem dX6_likeliest_36 : decode cX6_likeliest 36 = .ok (.getfield 82, 3) := by decide +kernel
theorem dX6_likeliest_39 : decode cX6_likeliest 39 = .ok (.lstore 6, 2) := by decide +kernel
theorem dX6_likeliest_41 : decode cX6_likeliest 41 = .ok (.iconst 1, 1) := by decide +kernel
theorem dX6_likeliest_42 : decode cX6_likeliest 42 = .ok (.istore 8, 2) := by decide +kernel
theorem dX6_likeliest_44 : decode cX6_likeliest 44 = .ok (.iload 8, 2) := by decide +kernel
theorem dX6_likeliest_46 : decode cX6_likeliest 46 = .ok (.bipush 6, 2) := by decide +kernel
theorem dX6_likeliest_48 : decode cX6_likeliest 48 = .ok (.if_icmp .ge 50, 3) := by decide +kernel
theorem dX6_likeliest_51 : decode cX6_likeliest 51 = .ok (.aload_n 0, 1) := by decide +kernel
theorem dX6_likeliest_52 : decode cX6_likeliest 52 = .ok (.iload_n 1, 1) := by decide +kernel
theorem dX6_likeliest_53 : decode cX6_likeliest 53 = .ok (.iload_n 2, 1) := by decide +kernel
theorem dX6_likeliest_54 : decode cX6_likeliest 54 = .ok (.iload 8, 2) := by decide +kernel
theorem dX6_likeliest_56 : decode cX6_likeliest 56 = .ok (.invokevirtual 92, 3) := by decide +kernel
theorem dX6_likeliest_59 : decode cX6_likeliest 59 = .ok (.aload_n 0, 1) := by decide +kernel
theorem dX6_likeliest_60 : decode cX6_likeliest 60 = .ok (.getfield 76, 3) := by decide +kernel
theorem dX6_likeliest_63 : decode cX6_likeliest 63 = .ok (.lload 6, 2) := by decide +kernel
theorem dX6_likeliest_65 : decode cX6_likeliest 65 = .ok (.lmul, 1) := by decide +kernel
theorem dX6_likeliest_66 : decode cX6_likeliest 66 = .ok (.lload 4, 2) := by decide +kernel
theorem dX6_likeliest_68 : decode cX6_likeliest 68 = .ok (.aload_n 0, 1) := by decide +kernel
theorem dX6_likeliest_69 : decode cX6_likeliest 69 = .ok (.getfield 82, 3) := by decide +kernel
theorem dX6_likeliest_72 : decode cX6_likeliest 72 = .ok (.lmul, 1) := by decide +kernel
theorem dX6_likeliest_73 : decode cX6_likeliest 73 = .ok (.lcmp, 1) := by decide +kernel
theorem dX6_likeliest_74 : decode cX6_likeliest 74 = .ok (.ifCond .le 18, 3) := by decide +kernel
theorem dX6_likeliest_77 : decode cX6_likeliest 77 = .ok (.iload 8, 2) := by decide +kernel
theorem dX6_likeliest_79 : decode cX6_likeliest 79 = .ok (.istore_n 3, 1) := by decide +kernel
theorem dX6_likeliest_80 : decode cX6_likeliest 80 = .ok (.aload_n 0, 1) := by decide +kernel
theorem dX6_likeliest_81 : decode cX6_likeliest 81 = .ok (.getfield 76, 3) := by decide +kernel
theorem dX6_likeliest_84 : decode cX6_likeliest 84 = .ok (.lstore 4, 2) := by decide +kernel
theorem dX6_likeliest_86 : decode cX6_likeliest 86 = .ok (.aload_n 0, 1) := by decide +kernel
theorem dX6_likeliest_87 : decode cX6_likeliest 87 = .ok (.getfield 82, 3) := by decide +kernel
theorem dX6_likeliest_90 : decode cX6_likeliest 90 = .ok (.lstore 6, 2) := by decide +kernel
theorem dX6_likeliest_92 : decode cX6_likeliest 92 = .ok (.iinc 8 1, 3) := by decide +kernel
theorem dX6_likeliest_95 : decode cX6_likeliest 95 = .ok (.goto (-51), 3) := by decide +kernel
theorem dX6_likeliest_98 : decode cX6_likeliest 98 = .ok (.iload_n 3, 1) := by decide +kernel
theorem dX6_likeliest_99 : decode cX6_likeliest 99 = .ok (.ireturn, 1) := by decide +kernel
theorem dX6_score_0 : decode cX6_score 0 = .ok (.iload_n 2, 1) := by decide +kernel
theorem dX6_score_1 : decode cX6_score 1 = .ok (.ifCond .lt 9, 3) := by decide +kernel
theorem dX6_score_4 : decode cX6_score 4 = .ok (.iload_n 2, 1) := by decide +kernel
theorem dX6_score_5 : decode cX6_score 5 = .ok (.bipush 19, 2) := by decide +kernel
theorem dX6_score_7 : decode cX6_score 7 = .ok (.if_icmp .le 5, 3) := by decide +kernel
theorem dX6_score_10 : decode cX6_score 10 = .ok (.iconst 0, 1) := by decide +kernel
theorem dX6_score_11 : decode cX6_score 11 = .ok (.ireturn, 1) := by decide +kernel
theorem dX6_score_12 : decode cX6_score 12 = .ok (.aload_n 0, 1) := by decide +kernel
theorem dX6_score_13 : decode cX6_score 13 = .ok (.invokevirtual 106, 3) := by decide +kernel
theorem dX6_score_16 : decode cX6_score 16 = .ok (.iload_n 1, 1) := by decide +kernel
theorem dX6_score_17 : decode cX6_score 17 = .ok (.ifCond .ne 7, 3) := by decide +kernel
theorem dX6_score_20 : decode cX6_score 20 = .ok (.iconst 0, 1) := by decide +kernel
theorem dX6_score_21 : decode cX6_score 21 = .ok (.goto 5, 3) := by decide +kernel
theorem dX6_score_24 : decode cX6_score 24 = .ok (.bipush 40, 2) := by decide +kernel
theorem dX6_score_26 : decode cX6_score 26 = .ok (.istore_n 3, 1) := by decide +kernel
theorem dX6_score_27 : decode cX6_score 27 = .ok (.aload_n 0, 1) := by decide +kernel
theorem dX6_score_28 : decode cX6_score 28 = .ok (.getfield 32, 3) := by decide +kernel
theorem dX6_score_31 : decode cX6_score 31 = .ok (.iload_n 3, 1) := by decide +kernel
theorem dX6_score_32 : decode cX6_score 32 = .ok (.iconst 2, 1) := by decide +kernel
theorem dX6_score_33 : decode cX6_score 33 = .ok (.iload_n 2, 1) := by decide +kernel
theorem dX6_score_34 : decode cX6_score 34 = .ok (.imul, 1) := by decide +kernel
theorem dX6_score_35 : decode cX6_score 35 = .ok (.iadd, 1) := by decide +kernel
theorem dX6_score_36 : decode cX6_score 36 = .ok (.iaload, 1) := by decide +kernel
theorem dX6_score_37 : decode cX6_score 37 = .ok (.aload_n 0, 1) := by decide +kernel
theorem dX6_score_38 : decode cX6_score 38 = .ok (.getfield 32, 3) := by decide +kernel
theorem dX6_score_41 : decode cX6_score 41 = .ok (.iload_n 3, 1) := by decide +kernel
theorem dX6_score_42 : decode cX6_score 42 = .ok (.iconst 2, 1) := by decide +kernel
theorem dX6_score_43 : decode cX6_score 43 = .ok (.iload_n 2, 1) := by decide +kernel
theorem dX6_score_44 : decode cX6_score 44 = .ok (.imul, 1) := by decide +kernel
theorem dX6_score_45 : decode cX6_score 45 = .ok (.iadd, 1) := by decide +kernel
theorem dX6_score_46 : decode cX6_score 46 = .ok (.iconst 1, 1) := by decide +kernel
theorem dX6_score_47 : decode cX6_score 47 = .ok (.iadd, 1) := by decide +kernel
theorem dX6_score_48 : decode cX6_score 48 = .ok (.iaload, 1) := by decide +kernel
theorem dX6_score_49 : decode cX6_score 49 = .ok (.bipush 16, 2) := by decide +kernel
theorem dX6_score_51 : decode cX6_score 51 = .ok (.ishl, 1) := by decide +kernel
theorem dX6_score_52 : decode cX6_score 52 = .ok (.ior, 1) := by decide +kernel
theorem dX6_score_53 : decode cX6_score 53 = .ok (.ireturn, 1) := by decide +kernel
theorem dX6_findScore_0 : decode cX6_findScore 0 = .ok (.aload_n 0, 1) := by decide +kernel
theorem dX6_findScore_1 : decode cX6_findScore 1 = .ok (.invokevirtual 56, 3) := by decide +kernel
theorem dX6_findScore_4 : decode cX6_findScore 4 = .ok (.aload_n 0, 1) := by decide +kernel
theorem dX6_findScore_5 : decode cX6_findScore 5 = .ok (.iconst 0, 1) := by decide +kernel
theorem dX6_findScore_6 : decode cX6_findScore 6 = .ok (.invokevirtual 98, 3) := by decide +kernel
theorem dX6_findScore_9 : decode cX6_findScore 9 = .ok (.aload_n 0, 1) := by decide +kernel
theorem dX6_findScore_10 : decode cX6_findScore 10 = .ok (.bipush 40, 2) := by decide +kernel
theorem dX6_findScore_12 : decode cX6_findScore 12 = .ok (.invokevirtual 98, 3) := by decide +kernel
theorem dX6_findScore_15 : decode cX6_findScore 15 = .ok (.iconst 0, 1) := by decide +kernel
theorem dX6_findScore_16 : decode cX6_findScore 16 = .ok (.istore_n 1, 1) := by decide +kernel
theorem dX6_findScore_17 : decode cX6_findScore 17 = .ok (.iload_n 1, 1) := by decide +kernel
theorem dX6_findScore_18 : decode cX6_findScore 18 = .ok (.aload_n 0, 1) := by decide +kernel
theorem dX6_findScore_19 : decode cX6_findScore 19 = .ok (.getfield 17, 3) := by decide +kernel
theorem dX6_findScore_22 : decode cX6_findScore 22 = .ok (.aload_n 0, 1) := by decide +kernel
theorem dX6_findScore_23 : decode cX6_findScore 23 = .ok (.getfield 35, 3) := by decide +kernel
theorem dX6_findScore_26 : decode cX6_findScore 26 = .ok (.iaload, 1) := by decide +kernel
theorem dX6_findScore_27 : decode cX6_findScore 27 = .ok (.if_icmp .gt 63, 3) := by decide +kernel
theorem dX6_findScore_30 : decode cX6_findScore 30 = .ok (.aload_n 0, 1) := by decide +kernel
theorem dX6_findScore_31 : decode cX6_findScore 31 = .ok (.aload_n 0, 1) := by decide +kernel
theorem dX6_findScore_32 : decode cX6_findScore 32 = .ok (.aload_n 0, 1) := by decide +kernel
theorem dX6_findScore_33 : decode cX6_findScore 33 = .ok (.getfield 35, 3) := by decide +kernel
theorem dX6_findScore_36 : decode cX6_findScore 36 = .ok (.iload_n 1, 1) := by decide +kernel
theorem dX6_findScore_37 : decode cX6_findScore 37 = .ok (.iconst 2, 1) := by decide +kernel
theorem dX6_findScore_38 : decode cX6_findScore 38 = .ok (.isub, 1) := by decide +kernel
theorem dX6_findScore_39 : decode cX6_findScore 39 = .ok (.invokevirtual 41, 3) := by decide +kernel
theorem dX6_findScore_42 : decode cX6_findScore 42 = .ok (.aload_n 0, 1) := by decide +kernel
theorem dX6_findScore_43 : decode cX6_findScore 43 = .ok (.aload_n 0, 1) := by decide +kernel
theorem dX6_findScore_44 : decode cX6_findScore 44 = .ok (.getfield 35, 3) := by decide +kernel
theorem dX6_findScore_47 : decode cX6_findScore 47 = .ok (.iload_n 1, 1) := by decide +kernel
theorem dX6_findScore_48 : decode cX6_findScore 48 = .ok (.iconst 1, 1) := by decide +kernel
theorem dX6_findScore_49 : decode cX6_findScore 49 = .ok (.isub, 1) := by decide +kernel
theorem dX6_findScore_50 : decode cX6_findScore 50 = .ok (.invokevirtual 41, 3) := by decide +kernel
theorem dX6_findScore_53 : decode cX6_findScore 53 = .ok (.aload_n 0, 1) := by decide +kernel
theorem dX6_findScore_54 : decode cX6_findScore 54 = .ok (.aload_n 0, 1) := by decide +kernel
theorem dX6_findScore_55 : decode cX6_findScore 55 = .ok (.getfield 35, 3) := by decide +kernel
theorem dX6_findScore_58 : decode cX6_findScore 58 = .ok (.iload_n 1, 1) := by decide +kernel
theorem dX6_findScore_59 : decode cX6_findScore 59 = .ok (.invokevirtual 41, 3) := by decide +kernel
theorem dX6_findScore_62 : decode cX6_findScore 62 = .ok (.invokevirtual 92, 3) := by decide +kernel
theorem dX6_findScore_65 : decode cX6_findScore 65 = .ok (.aload_n 0, 1) := by decide +kernel
theorem dX6_findScore_66 : decode cX6_findScore 66 = .ok (.iconst 0, 1) := by decide +kernel
theorem dX6_findScore_67 : decode cX6_findScore 67 = .ok (.aload_n 0, 1) := by decide +kernel
theorem dX6_findScore_68 : decode cX6_findScore 68 = .ok (.getfield 76, 3) := by decide +kernel
theorem dX6_findScore_71 : decode cX6_findScore 71 = .ok (.invokevirtual 102, 3) := by decide +kernel
theorem dX6_findScore_74 : decode cX6_findScore 74 = .ok (.aload_n 0, 1) := by decide +kernel
theorem dX6_findScore_75 : decode cX6_findScore 75 = .ok (.bipush 40, 2) := by decide +kernel
theorem dX6_findScore_77 : decode cX6_findScore 77 = .ok (.aload_n 0, 1) := by decide +kernel
theorem dX6_findScore_78 : decode cX6_findScore 78 = .ok (.getfield 82, 3) := by decide +kernel
theorem dX6_findScore_81 : decode cX6_findScore 81 = .ok (.invokevirtual 102, 3) := by decide +kernel
theorem dX6_findScore_84 : decode cX6_findScore 84 = .ok (.iinc 1 1, 3) := by decide +kernel
theorem dX6_findScore_87 : decode cX6_findScore 87 = .ok (.goto (-70), 3) := by decide +kernel
theorem dX6_findScore_90 : decode cX6_findScore 90 = .ok (.return_, 1) := by decide +kernel
theorem dX6_setOne_0 : decode cX6_setOne 0 = .ok (.iconst 0, 1) := by decide +kernel
theorem dX6_setOne_1 : decode cX6_setOne 1 = .ok (.istore_n 2, 1) := by decide +kernel
theorem dX6_setOne_2 : decode cX6_setOne 2 = .ok (.iload_n 2, 1) := by decide +kernel
theorem dX6_setOne_3 : decode cX6_setOne 3 = .ok (.bipush 40, 2) := by decide +kernel
theorem dX6_setOne_5 : decode cX6_setOne 5 = .ok (.if_icmp .ge 18, 3) := by decide +kernel
theorem dX6_setOne_8 : decode cX6_setOne 8 = .ok (.aload_n 0, 1) := by decide +kernel
theorem dX6_setOne_9 : decode cX6_setOne 9 = .ok (.getfield 32, 3) := by decide +kernel
theorem dX6_setOne_12 : decode cX6_setOne 12 = .ok (.iload_n 1, 1) := by decide +kernel
theorem dX6_setOne_13 : decode cX6_setOne 13 = .ok (.iload_n 2, 1) := by decide +kernel
theorem dX6_setOne_14 : decode cX6_setOne 14 = .ok (.iadd, 1) := by decide +kernel
theorem dX6_setOne_15 : decode cX6_setOne 15 = .ok (.iconst 0, 1) := by decide +kernel
theorem dX6_setOne_16 : decode cX6_setOne 16 = .ok (.iastore, 1) := by decide +kernel
theorem dX6_setOne_17 : decode cX6_setOne 17 = .ok (.iinc 2 1, 3) := by decide +kernel
theorem dX6_setOne_20 : decode cX6_setOne 20 = .ok (.goto (-18), 3) := by decide +kernel
theorem dX6_setOne_23 : decode cX6_setOne 23 = .ok (.aload_n 0, 1) := by decide +kernel
theorem dX6_setOne_24 : decode cX6_setOne 24 = .ok (.getfield 32, 3) := by decide +kernel
theorem dX6_setOne_27 : decode cX6_setOne 27 = .ok (.iload_n 1, 1) := by decide +kernel
theorem dX6_setOne_28 : decode cX6_setOne 28 = .ok (.iconst 1, 1) := by decide +kernel
theorem dX6_setOne_29 : decode cX6_setOne 29 = .ok (.iastore, 1) := by decide +kernel
theorem dX6_setOne_30 : decode cX6_setOne 30 = .ok (.return_, 1) := by decide +kernel
theorem dX6_times_0 : decode cX6_times 0 = .ok (.lconst 0, 1) := by decide +kernel
theorem dX6_times_1 : decode cX6_times 1 = .ok (.lstore 4, 2) := by decide +kernel
theorem dX6_times_3 : decode cX6_times 3 = .ok (.iconst 0, 1) := by decide +kernel
theorem dX6_times_4 : decode cX6_times 4 = .ok (.istore 6, 2) := by decide +kernel
theorem dX6_times_6 : decode cX6_times 6 = .ok (.iload 6, 2) := by decide +kernel
theorem dX6_times_8 : decode cX6_times 8 = .ok (.bipush 40, 2) := by decide +kernel
theorem dX6_times_10 : decode cX6_times 10 = .ok (.if_icmp .ge 49, 3) := by decide +kernel
theorem dX6_times_13 : decode cX6_times 13 = .ok (.aload_n 0, 1) := by decide +kernel
theorem dX6_times_14 : decode cX6_times 14 = .ok (.getfield 32, 3) := by decide +kernel
theorem dX6_times_17 : decode cX6_times 17 = .ok (.iload_n 1, 1) := by decide +kernel
theorem dX6_times_18 : decode cX6_times 18 = .ok (.iload 6, 2) := by decide +kernel
theorem dX6_times_20 : decode cX6_times 20 = .ok (.iadd, 1) := by decide +kernel
theorem dX6_times_21 : decode cX6_times 21 = .ok (.iaload, 1) := by decide +kernel
theorem dX6_times_22 : decode cX6_times 22 = .ok (.i2l, 1) := by decide +kernel
theorem dX6_times_23 : decode cX6_times 23 = .ok (.lload_n 2, 1) := by decide +kernel
theorem dX6_times_24 : decode cX6_times 24 = .ok (.lmul, 1) := by decide +kernel
theorem dX6_times_25 : decode cX6_times 25 = .ok (.lload 4, 2) := by decide +kernel
theorem dX6_times_27 : decode cX6_times 27 = .ok (.ladd, 1) := by decide +kernel
theorem dX6_times_28 : decode cX6_times 28 = .ok (.lstore 7, 2) := by decide +kernel
theorem dX6_times_30 : decode cX6_times 30 = .ok (.aload_n 0, 1) := by decide +kernel
theorem dX6_times_31 : decode cX6_times 31 = .ok (.getfield 32, 3) := by decide +kernel
theorem dX6_times_34 : decode cX6_times 34 = .ok (.iload_n 1, 1) := by decide +kernel
theorem dX6_times_35 : decode cX6_times 35 = .ok (.iload 6, 2) := by decide +kernel
theorem dX6_times_37 : decode cX6_times 37 = .ok (.iadd, 1) := by decide +kernel
theorem dX6_times_38 : decode cX6_times 38 = .ok (.lload 7, 2) := by decide +kernel
theorem dX6_times_40 : decode cX6_times 40 = .ok (.ldc2_w 96, 3) := by decide +kernel
theorem dX6_times_43 : decode cX6_times 43 = .ok (.land, 1) := by decide +kernel
theorem dX6_times_44 : decode cX6_times 44 = .ok (.l2i, 1) := by decide +kernel
theorem dX6_times_45 : decode cX6_times 45 = .ok (.iastore, 1) := by decide +kernel
theorem dX6_times_46 : decode cX6_times 46 = .ok (.lload 7, 2) := by decide +kernel
theorem dX6_times_48 : decode cX6_times 48 = .ok (.bipush 16, 2) := by decide +kernel
theorem dX6_times_50 : decode cX6_times 50 = .ok (.lshr, 1) := by decide +kernel
theorem dX6_times_51 : decode cX6_times 51 = .ok (.lstore 4, 2) := by decide +kernel
theorem dX6_times_53 : decode cX6_times 53 = .ok (.iinc 6 1, 3) := by decide +kernel
theorem dX6_times_56 : decode cX6_times 56 = .ok (.goto (-50), 3) := by decide +kernel
theorem dX6_times_59 : decode cX6_times 59 = .ok (.return_, 1) := by decide +kernel
theorem dX6_keep_0 : decode cX6_keep 0 = .ok (.aload_n 0, 1) := by decide +kernel
theorem dX6_keep_1 : decode cX6_keep 1 = .ok (.invokevirtual 106, 3) := by decide +kernel
theorem dX6_keep_4 : decode cX6_keep 4 = .ok (.iconst 0, 1) := by decide +kernel
theorem dX6_keep_5 : decode cX6_keep 5 = .ok (.istore_n 1, 1) := by decide +kernel
theorem dX6_keep_6 : decode cX6_keep 6 = .ok (.iload_n 1, 1) := by decide +kernel
theorem dX6_keep_7 : decode cX6_keep 7 = .ok (.bipush 80, 2) := by decide +kernel
theorem dX6_keep_9 : decode cX6_keep 9 = .ok (.if_icmp .ge 24, 3) := by decide +kernel
theorem dX6_keep_12 : decode cX6_keep 12 = .ok (.aload_n 0, 1) := by decide +kernel
theorem dX6_keep_13 : decode cX6_keep 13 = .ok (.getfield 32, 3) := by decide +kernel
theorem dX6_keep_16 : decode cX6_keep 16 = .ok (.bipush 80, 2) := by decide +kernel
theorem dX6_keep_18 : decode cX6_keep 18 = .ok (.iload_n 1, 1) := by decide +kernel
theorem dX6_keep_19 : decode cX6_keep 19 = .ok (.iadd, 1) := by decide +kernel
theorem dX6_keep_20 : decode cX6_keep 20 = .ok (.aload_n 0, 1) := by decide +kernel
theorem dX6_keep_21 : decode cX6_keep 21 = .ok (.getfield 32, 3) := by decide +kernel
theorem dX6_keep_24 : decode cX6_keep 24 = .ok (.iload_n 1, 1) := by decide +kernel
theorem dX6_keep_25 : decode cX6_keep 25 = .ok (.iaload, 1) := by decide +kernel
theorem dX6_keep_26 : decode cX6_keep 26 = .ok (.iastore, 1) := by decide +kernel
theorem dX6_keep_27 : decode cX6_keep 27 = .ok (.iinc 1 1, 3) := by decide +kernel
theorem dX6_keep_30 : decode cX6_keep 30 = .ok (.goto (-24), 3) := by decide +kernel
theorem dX6_keep_33 : decode cX6_keep 33 = .ok (.return_, 1) := by decide +kernel
theorem dX6_against_0 : decode cX6_against 0 = .ok (.aload_n 0, 1) := by decide +kernel
theorem dX6_against_1 : decode cX6_against 1 = .ok (.invokevirtual 106, 3) := by decide +kernel
theorem dX6_against_4 : decode cX6_against 4 = .ok (.aload_n 0, 1) := by decide +kernel
theorem dX6_against_5 : decode cX6_against 5 = .ok (.iconst 0, 1) := by decide +kernel
theorem dX6_against_6 : decode cX6_against 6 = .ok (.bipush 120, 2) := by decide +kernel
theorem dX6_against_8 : decode cX6_against 8 = .ok (.sipush 160, 3) := by decide +kernel
theorem dX6_against_11 : decode cX6_against 11 = .ok (.invokevirtual 109, 3) := by decide +kernel
theorem dX6_against_14 : decode cX6_against 14 = .ok (.aload_n 0, 1) := by decide +kernel
theorem dX6_against_15 : decode cX6_against 15 = .ok (.bipush 80, 2) := by decide +kernel
theorem dX6_against_17 : decode cX6_against 17 = .ok (.bipush 40, 2) := by decide +kernel
theorem dX6_against_19 : decode cX6_against 19 = .ok (.sipush 200, 3) := by decide +kernel
theorem dX6_against_22 : decode cX6_against 22 = .ok (.invokevirtual 109, 3) := by decide +kernel
theorem dX6_against_25 : decode cX6_against 25 = .ok (.bipush 39, 2) := by decide +kernel
theorem dX6_against_27 : decode cX6_against 27 = .ok (.istore_n 1, 1) := by decide +kernel
theorem dX6_against_28 : decode cX6_against 28 = .ok (.iload_n 1, 1) := by decide +kernel
theorem dX6_against_29 : decode cX6_against 29 = .ok (.ifCond .lt 33, 3) := by decide +kernel
theorem dX6_against_32 : decode cX6_against 32 = .ok (.aload_n 0, 1) := by decide +kernel
theorem dX6_against_33 : decode cX6_against 33 = .ok (.getfield 32, 3) := by decide +kernel
theorem dX6_against_36 : decode cX6_against 36 = .ok (.sipush 160, 3) := by decide +kernel
theorem dX6_against_39 : decode cX6_against 39 = .ok (.iload_n 1, 1) := by decide +kernel
theorem dX6_against_40 : decode cX6_against 40 = .ok (.iadd, 1) := by decide +kernel
theorem dX6_against_41 : decode cX6_against 41 = .ok (.iaload, 1) := by decide +kernel
theorem dX6_against_42 : decode cX6_against 42 = .ok (.aload_n 0, 1) := by decide +kernel
theorem dX6_against_43 : decode cX6_against 43 = .ok (.getfield 32, 3) := by decide +kernel
theorem dX6_against_46 : decode cX6_against 46 = .ok (.sipush 200, 3) := by decide +kernel
theorem dX6_against_49 : decode cX6_against 49 = .ok (.iload_n 1, 1) := by decide +kernel
theorem dX6_against_50 : decode cX6_against 50 = .ok (.iadd, 1) := by decide +kernel
theorem dX6_against_51 : decode cX6_against 51 = .ok (.iaload, 1) := by decide +kernel
theorem dX6_against_52 : decode cX6_against 52 = .ok (.if_icmp .ne 10, 3) := by decide +kernel
theorem dX6_against_55 : decode cX6_against 55 = .ok (.iload_n 1, 1) := by decide +kernel
theorem dX6_against_56 : decode cX6_against 56 = .ok (.iconst 1, 1) := by decide +kernel
theorem dX6_against_57 : decode cX6_against 57 = .ok (.isub, 1) := by decide +kernel
theorem dX6_against_58 : decode cX6_against 58 = .ok (.istore_n 1, 1) := by decide +kernel
theorem dX6_against_59 : decode cX6_against 59 = .ok (.goto (-31), 3) := by decide +kernel
theorem dX6_against_62 : decode cX6_against 62 = .ok (.iload_n 1, 1) := by decide +kernel
theorem dX6_against_63 : decode cX6_against 63 = .ok (.ifCond .ge 7, 3) := by decide +kernel
theorem dX6_against_66 : decode cX6_against 66 = .ok (.iconst 0, 1) := by decide +kernel
theorem dX6_against_67 : decode cX6_against 67 = .ok (.goto 31, 3) := by decide +kernel
theorem dX6_against_70 : decode cX6_against 70 = .ok (.aload_n 0, 1) := by decide +kernel
theorem dX6_against_71 : decode cX6_against 71 = .ok (.getfield 32, 3) := by decide +kernel
theorem dX6_against_74 : decode cX6_against 74 = .ok (.sipush 160, 3) := by decide +kernel
theorem dX6_against_77 : decode cX6_against 77 = .ok (.iload_n 1, 1) := by decide +kernel
theorem dX6_against_78 : decode cX6_against 78 = .ok (.iadd, 1) := by decide +kernel
theorem dX6_against_79 : decode cX6_against 79 = .ok (.iaload, 1) := by decide +kernel
theorem dX6_against_80 : decode cX6_against 80 = .ok (.aload_n 0, 1) := by decide +kernel
theorem dX6_against_81 : decode cX6_against 81 = .ok (.getfield 32, 3) := by decide +kernel
theorem dX6_against_84 : decode cX6_against 84 = .ok (.sipush 200, 3) := by decide +kernel
theorem dX6_against_87 : decode cX6_against 87 = .ok (.iload_n 1, 1) := by decide +kernel
theorem dX6_against_88 : decode cX6_against 88 = .ok (.iadd, 1) := by decide +kernel
theorem dX6_against_89 : decode cX6_against 89 = .ok (.iaload, 1) := by decide +kernel
theorem dX6_against_90 : decode cX6_against 90 = .ok (.if_icmp .ge 7, 3) := by decide +kernel
theorem dX6_against_93 : decode cX6_against 93 = .ok (.iconst (-1), 1) := by decide +kernel
theorem dX6_against_94 : decode cX6_against 94 = .ok (.goto 4, 3) := by decide +kernel
theorem dX6_against_97 : decode cX6_against 97 = .ok (.iconst 1, 1) := by decide +kernel
theorem dX6_against_98 : decode cX6_against 98 = .ok (.ireturn, 1) := by decide +kernel
theorem dX6_multiply_0 : decode cX6_multiply 0 = .ok (.iconst 0, 1) := by decide +kernel
theorem dX6_multiply_1 : decode cX6_multiply 1 = .ok (.istore 4, 2) := by decide +kernel
theorem dX6_multiply_3 : decode cX6_multiply 3 = .ok (.iload 4, 2) := by decide +kernel
theorem dX6_multiply_5 : decode cX6_multiply 5 = .ok (.bipush 40, 2) := by decide +kernel
theorem dX6_multiply_7 : decode cX6_multiply 7 = .ok (.if_icmp .ge 19, 3) := by decide +kernel
theorem dX6_multiply_10 : decode cX6_multiply 10 = .ok (.aload_n 0, 1) := by decide +kernel
theorem dX6_multiply_11 : decode cX6_multiply 11 = .ok (.getfield 32, 3) := by decide +kernel
theorem dX6_multiply_14 : decode cX6_multiply 14 = .ok (.iload_n 3, 1) := by decide +kernel
theorem dX6_multiply_15 : decode cX6_multiply 15 = .ok (.iload 4, 2) := by decide +kernel
theorem dX6_multiply_17 : decode cX6_multiply 17 = .ok (.iadd, 1) := by decide +kernel
theorem dX6_multiply_18 : decode cX6_multiply 18 = .ok (.iconst 0, 1) := by decide +kernel
theorem dX6_multiply_19 : decode cX6_multiply 19 = .ok (.iastore, 1) := by decide +kernel
theorem dX6_multiply_20 : decode cX6_multiply 20 = .ok (.iinc 4 1, 3) := by decide +kernel
theorem dX6_multiply_23 : decode cX6_multiply 23 = .ok (.goto (-20), 3) := by decide +kernel
theorem dX6_multiply_26 : decode cX6_multiply 26 = .ok (.iconst 0, 1) := by decide +kernel
theorem dX6_multiply_27 : decode cX6_multiply 27 = .ok (.istore 4, 2) := by decide +kernel
theorem dX6_multiply_29 : decode cX6_multiply 29 = .ok (.iload 4, 2) := by decide +kernel
theorem dX6_multiply_31 : decode cX6_multiply 31 = .ok (.bipush 40, 2) := by decide +kernel
theorem dX6_multiply_33 : decode cX6_multiply 33 = .ok (.if_icmp .ge 97, 3) := by decide +kernel
theorem dX6_multiply_36 : decode cX6_multiply 36 = .ok (.lconst 0, 1) := by decide +kernel
theorem dX6_multiply_37 : decode cX6_multiply 37 = .ok (.lstore 5, 2) := by decide +kernel
theorem dX6_multiply_39 : decode cX6_multiply 39 = .ok (.iconst 0, 1) := by decide +kernel
theorem dX6_multiply_40 : decode cX6_multiply 40 = .ok (.istore 7, 2) := by decide +kernel
theorem dX6_multiply_42 : decode cX6_multiply 42 = .ok (.iload 4, 2) := by decide +kernel
theorem dX6_multiply_44 : decode cX6_multiply 44 = .ok (.iload 7, 2) := by decide +kernel
theorem dX6_multiply_46 : decode cX6_multiply 46 = .ok (.iadd, 1) := by decide +kernel
theorem dX6_multiply_47 : decode cX6_multiply 47 = .ok (.bipush 40, 2) := by decide +kernel
theorem dX6_multiply_49 : decode cX6_multiply 49 = .ok (.if_icmp .ge 75, 3) := by decide +kernel
theorem dX6_multiply_52 : decode cX6_multiply 52 = .ok (.aload_n 0, 1) := by decide +kernel
theorem dX6_multiply_53 : decode cX6_multiply 53 = .ok (.getfield 32, 3) := by decide +kernel
theorem dX6_multiply_56 : decode cX6_multiply 56 = .ok (.iload_n 3, 1) := by decide +kernel
theorem dX6_multiply_57 : decode cX6_multiply 57 = .ok (.iload 4, 2) := by decide +kernel
theorem dX6_multiply_59 : decode cX6_multiply 59 = .ok (.iadd, 1) := by decide +kernel
theorem dX6_multiply_60 : decode cX6_multiply 60 = .ok (.iload 7, 2) := by decide +kernel
theorem dX6_multiply_62 : decode cX6_multiply 62 = .ok (.iadd, 1) := by decide +kernel
theorem dX6_multiply_63 : decode cX6_multiply 63 = .ok (.iaload, 1) := by decide +kernel
theorem dX6_multiply_64 : decode cX6_multiply 64 = .ok (.i2l, 1) := by decide +kernel
theorem dX6_multiply_65 : decode cX6_multiply 65 = .ok (.aload_n 0, 1) := by decide +kernel
theorem dX6_multiply_66 : decode cX6_multiply 66 = .ok (.getfield 32, 3) := by decide +kernel
theorem dX6_multiply_69 : decode cX6_multiply 69 = .ok (.iload_n 1, 1) := by decide +kernel
theorem dX6_multiply_70 : decode cX6_multiply 70 = .ok (.iload 4, 2) := by decide +kernel
theorem dX6_multiply_72 : decode cX6_multiply 72 = .ok (.iadd, 1) := by decide +kernel
theorem dX6_multiply_73 : decode cX6_multiply 73 = .ok (.iaload, 1) := by decide +kernel
theorem dX6_multiply_74 : decode cX6_multiply 74 = .ok (.i2l, 1) := by decide +kernel
theorem dX6_multiply_75 : decode cX6_multiply 75 = .ok (.aload_n 0, 1) := by decide +kernel
theorem dX6_multiply_76 : decode cX6_multiply 76 = .ok (.getfield 32, 3) := by decide +kernel
theorem dX6_multiply_79 : decode cX6_multiply 79 = .ok (.iload_n 2, 1) := by decide +kernel
theorem dX6_multiply_80 : decode cX6_multiply 80 = .ok (.iload 7, 2) := by decide +kernel
theorem dX6_multiply_82 : decode cX6_multiply 82 = .ok (.iadd, 1) := by decide +kernel
theorem dX6_multiply_83 : decode cX6_multiply 83 = .ok (.iaload, 1) := by decide +kernel
theorem dX6_multiply_84 : decode cX6_multiply 84 = .ok (.i2l, 1) := by decide +kernel
theorem dX6_multiply_85 : decode cX6_multiply 85 = .ok (.lmul, 1) := by decide +kernel
theorem dX6_multiply_86 : decode cX6_multiply 86 = .ok (.ladd, 1) := by decide +kernel
theorem dX6_multiply_87 : decode cX6_multiply 87 = .ok (.lload 5, 2) := by decide +kernel
theorem dX6_multiply_89 : decode cX6_multiply 89 = .ok (.ladd, 1) := by decide +kernel
theorem dX6_multiply_90 : decode cX6_multiply 90 = .ok (.lstore 8, 2) := by decide +kernel
theorem dX6_multiply_92 : decode cX6_multiply 92 = .ok (.aload_n 0, 1) := by decide +kernel
theorem dX6_multiply_93 : decode cX6_multiply 93 = .ok (.getfield 32, 3) := by decide +kernel
theorem dX6_multiply_96 : decode cX6_multiply 96 = .ok (.iload_n 3, 1) := by decide +kernel
theorem dX6_multiply_97 : decode cX6_multiply 97 = .ok (.iload 4, 2) := by decide +kernel
theorem dX6_multiply_99 : decode cX6_multiply 99 = .ok (.iadd, 1) := by decide +kernel
theorem dX6_multiply_100 : decode cX6_multiply 100 = .ok (.iload 7, 2) := by decide +kernel
theorem dX6_multiply_102 : decode cX6_multiply 102 = .ok (.iadd, 1) := by decide +kernel
theorem dX6_multiply_103 : decode cX6_multiply 103 = .ok (.lload 8, 2) := by decide +kernel
theorem dX6_multiply_105 : decode cX6_multiply 105 = .ok (.ldc2_w 96, 3) := by decide +kernel
theorem dX6_multiply_108 : decode cX6_multiply 108 = .ok (.land, 1) := by decide +kernel
theorem dX6_multiply_109 : decode cX6_multiply 109 = .ok (.l2i, 1) := by decide +kernel
theorem dX6_multiply_110 : decode cX6_multiply 110 = .ok (.iastore, 1) := by decide +kernel
theorem dX6_multiply_111 : decode cX6_multiply 111 = .ok (.lload 8, 2) := by decide +kernel
theorem dX6_multiply_113 : decode cX6_multiply 113 = .ok (.bipush 16, 2) := by decide +kernel
theorem dX6_multiply_115 : decode cX6_multiply 115 = .ok (.lshr, 1) := by decide +kernel
theorem dX6_multiply_116 : decode cX6_multiply 116 = .ok (.lstore 5, 2) := by decide +kernel
theorem dX6_multiply_118 : decode cX6_multiply 118 = .ok (.iinc 7 1, 3) := by decide +kernel
theorem dX6_multiply_121 : decode cX6_multiply 121 = .ok (.goto (-79), 3) := by decide +kernel
theorem dX6_multiply_124 : decode cX6_multiply 124 = .ok (.iinc 4 1, 3) := by decide +kernel
theorem dX6_multiply_127 : decode cX6_multiply 127 = .ok (.goto (-98), 3) := by decide +kernel
theorem dX6_multiply_130 : decode cX6_multiply 130 = .ok (.return_, 1) := by decide +kernel
