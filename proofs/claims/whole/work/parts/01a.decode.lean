theorem dX0_init_0 : decode cX0_init 0 = .ok (.aload_n 0, 1) := by decide +kernel
theorem dX0_init_1 : decode cX0_init 1 = .ok (.invokespecial 3, 3) := by decide +kernel
theorem dX0_init_4 : decode cX0_init 4 = .ok (.aload_n 0, 1) := by decide +kernel
theorem dX0_init_5 : decode cX0_init 5 = .ok (.lconst 1, 1) := by decide +kernel
theorem dX0_init_6 : decode cX0_init 6 = .ok (.putfield 9, 3) := by decide +kernel
theorem dX0_init_9 : decode cX0_init 9 = .ok (.aload_n 0, 1) := by decide +kernel
theorem dX0_init_10 : decode cX0_init 10 = .ok (.ldc2_w 15, 3) := by decide +kernel
theorem dX0_init_13 : decode cX0_init 13 = .ok (.putfield 17, 3) := by decide +kernel
theorem dX0_init_16 : decode cX0_init 16 = .ok (.return_, 1) := by decide +kernel
theorem dX0_find_0 : decode cX0_find 0 = .ok (.aload_n 0, 1) := by decide +kernel
theorem dX0_find_1 : decode cX0_find 1 = .ok (.lconst 1, 1) := by decide +kernel
theorem dX0_find_2 : decode cX0_find 2 = .ok (.putfield 9, 3) := by decide +kernel
theorem dX0_find_5 : decode cX0_find 5 = .ok (.aload_n 0, 1) := by decide +kernel
theorem dX0_find_6 : decode cX0_find 6 = .ok (.ldc2_w 15, 3) := by decide +kernel
theorem dX0_find_9 : decode cX0_find 9 = .ok (.putfield 17, 3) := by decide +kernel
theorem dX0_find_12 : decode cX0_find 12 = .ok (.iconst 1, 1) := by decide +kernel
theorem dX0_find_13 : decode cX0_find 13 = .ok (.istore 6, 2) := by decide +kernel
theorem dX0_find_15 : decode cX0_find 15 = .ok (.iload 6, 2) := by decide +kernel
theorem dX0_find_17 : decode cX0_find 17 = .ok (.aload_n 1, 1) := by decide +kernel
theorem dX0_find_18 : decode cX0_find 18 = .ok (.getfield 20, 3) := by decide +kernel
theorem dX0_find_21 : decode cX0_find 21 = .ok (.if_icmp .gt 30, 3) := by decide +kernel
theorem dX0_find_24 : decode cX0_find 24 = .ok (.aload_n 0, 1) := by decide +kernel
theorem dX0_find_25 : decode cX0_find 25 = .ok (.aload_n 1, 1) := by decide +kernel
theorem dX0_find_26 : decode cX0_find 26 = .ok (.iload 6, 2) := by decide +kernel
theorem dX0_find_28 : decode cX0_find 28 = .ok (.iload 6, 2) := by decide +kernel
theorem dX0_find_30 : decode cX0_find 30 = .ok (.iload_n 3, 1) := by decide +kernel
theorem dX0_find_31 : decode cX0_find 31 = .ok (.iload 4, 2) := by decide +kernel
theorem dX0_find_33 : decode cX0_find 33 = .ok (.invokestatic 26, 3) := by decide +kernel
theorem dX0_find_36 : decode cX0_find 36 = .ok (.iload 5, 2) := by decide +kernel
theorem dX0_find_38 : decode cX0_find 38 = .ok (.aload_n 2, 1) := by decide +kernel
theorem dX0_find_39 : decode cX0_find 39 = .ok (.iload 6, 2) := by decide +kernel
theorem dX0_find_41 : decode cX0_find 41 = .ok (.iaload, 1) := by decide +kernel
theorem dX0_find_42 : decode cX0_find 42 = .ok (.invokevirtual 30, 3) := by decide +kernel
theorem dX0_find_45 : decode cX0_find 45 = .ok (.iinc 6 1, 3) := by decide +kernel
theorem dX0_find_48 : decode cX0_find 48 = .ok (.goto (-33), 3) := by decide +kernel
theorem dX0_find_51 : decode cX0_find 51 = .ok (.aload_n 0, 1) := by decide +kernel
theorem dX0_find_52 : decode cX0_find 52 = .ok (.invokevirtual 34, 3) := by decide +kernel
theorem dX0_find_55 : decode cX0_find 55 = .ok (.return_, 1) := by decide +kernel
theorem dX0_smooth_0 : decode cX0_smooth 0 = .ok (.aload_n 1, 1) := by decide +kernel
theorem dX0_smooth_1 : decode cX0_smooth 1 = .ok (.iload_n 2, 1) := by decide +kernel
theorem dX0_smooth_2 : decode cX0_smooth 2 = .ok (.iload_n 3, 1) := by decide +kernel
theorem dX0_smooth_3 : decode cX0_smooth 3 = .ok (.invokevirtual 37, 3) := by decide +kernel
theorem dX0_smooth_6 : decode cX0_smooth 6 = .ok (.istore 6, 2) := by decide +kernel
theorem dX0_smooth_8 : decode cX0_smooth 8 = .ok (.iload 6, 2) := by decide +kernel
theorem dX0_smooth_10 : decode cX0_smooth 10 = .ok (.ifCond .ne 4, 3) := by decide +kernel
theorem dX0_smooth_13 : decode cX0_smooth 13 = .ok (.return_, 1) := by decide +kernel
theorem dX0_smooth_14 : decode cX0_smooth 14 = .ok (.bipush 8, 2) := by decide +kernel
theorem dX0_smooth_16 : decode cX0_smooth 16 = .ok (.aload_n 1, 1) := by decide +kernel
theorem dX0_smooth_17 : decode cX0_smooth 17 = .ok (.iload_n 2, 1) := by decide +kernel
theorem dX0_smooth_18 : decode cX0_smooth 18 = .ok (.iload_n 3, 1) := by decide +kernel
theorem dX0_smooth_19 : decode cX0_smooth 19 = .ok (.bipush 7, 2) := by decide +kernel
theorem dX0_smooth_21 : decode cX0_smooth 21 = .ok (.imul, 1) := by decide +kernel
theorem dX0_smooth_22 : decode cX0_smooth 22 = .ok (.iload 4, 2) := by decide +kernel
theorem dX0_smooth_24 : decode cX0_smooth 24 = .ok (.iadd, 1) := by decide +kernel
theorem dX0_smooth_25 : decode cX0_smooth 25 = .ok (.invokevirtual 41, 3) := by decide +kernel
theorem dX0_smooth_28 : decode cX0_smooth 28 = .ok (.imul, 1) := by decide +kernel
theorem dX0_smooth_29 : decode cX0_smooth 29 = .ok (.iload 5, 2) := by decide +kernel
theorem dX0_smooth_31 : decode cX0_smooth 31 = .ok (.isub, 1) := by decide +kernel
theorem dX0_smooth_32 : decode cX0_smooth 32 = .ok (.iconst 0, 1) := by decide +kernel
theorem dX0_smooth_33 : decode cX0_smooth 33 = .ok (.invokestatic 44, 3) := by decide +kernel
theorem dX0_smooth_36 : decode cX0_smooth 36 = .ok (.istore 7, 2) := by decide +kernel
theorem dX0_smooth_38 : decode cX0_smooth 38 = .ok (.iload 5, 2) := by decide +kernel
theorem dX0_smooth_40 : decode cX0_smooth 40 = .ok (.aload_n 1, 1) := by decide +kernel
theorem dX0_smooth_41 : decode cX0_smooth 41 = .ok (.iload_n 2, 1) := by decide +kernel
theorem dX0_smooth_42 : decode cX0_smooth 42 = .ok (.iload_n 3, 1) := by decide +kernel
theorem dX0_smooth_43 : decode cX0_smooth 43 = .ok (.invokevirtual 49, 3) := by decide +kernel
theorem dX0_smooth_46 : decode cX0_smooth 46 = .ok (.imul, 1) := by decide +kernel
theorem dX0_smooth_47 : decode cX0_smooth 47 = .ok (.istore 8, 2) := by decide +kernel
theorem dX0_smooth_49 : decode cX0_smooth 49 = .ok (.aload_n 0, 1) := by decide +kernel
theorem dX0_smooth_50 : decode cX0_smooth 50 = .ok (.iload 7, 2) := by decide +kernel
theorem dX0_smooth_52 : decode cX0_smooth 52 = .ok (.i2l, 1) := by decide +kernel
theorem dX0_smooth_53 : decode cX0_smooth 53 = .ok (.aload_n 0, 1) := by decide +kernel
theorem dX0_smooth_54 : decode cX0_smooth 54 = .ok (.getfield 17, 3) := by decide +kernel
theorem dX0_smooth_57 : decode cX0_smooth 57 = .ok (.lmul, 1) := by decide +kernel
theorem dX0_smooth_58 : decode cX0_smooth 58 = .ok (.iload 8, 2) := by decide +kernel
theorem dX0_smooth_60 : decode cX0_smooth 60 = .ok (.i2l, 1) := by decide +kernel
theorem dX0_smooth_61 : decode cX0_smooth 61 = .ok (.aload_n 0, 1) := by decide +kernel
theorem dX0_smooth_62 : decode cX0_smooth 62 = .ok (.getfield 9, 3) := by decide +kernel
theorem dX0_smooth_65 : decode cX0_smooth 65 = .ok (.lmul, 1) := by decide +kernel
theorem dX0_smooth_66 : decode cX0_smooth 66 = .ok (.ladd, 1) := by decide +kernel
theorem dX0_smooth_67 : decode cX0_smooth 67 = .ok (.putfield 9, 3) := by decide +kernel
theorem dX0_smooth_70 : decode cX0_smooth 70 = .ok (.aload_n 0, 1) := by decide +kernel
theorem dX0_smooth_71 : decode cX0_smooth 71 = .ok (.bipush 8, 2) := by decide +kernel
theorem dX0_smooth_73 : decode cX0_smooth 73 = .ok (.iload 6, 2) := by decide +kernel
theorem dX0_smooth_75 : decode cX0_smooth 75 = .ok (.imul, 1) := by decide +kernel
theorem dX0_smooth_76 : decode cX0_smooth 76 = .ok (.i2l, 1) := by decide +kernel
theorem dX0_smooth_77 : decode cX0_smooth 77 = .ok (.aload_n 0, 1) := by decide +kernel
theorem dX0_smooth_78 : decode cX0_smooth 78 = .ok (.getfield 17, 3) := by decide +kernel
theorem dX0_smooth_81 : decode cX0_smooth 81 = .ok (.lmul, 1) := by decide +kernel
theorem dX0_smooth_82 : decode cX0_smooth 82 = .ok (.putfield 17, 3) := by decide +kernel
theorem dX0_smooth_85 : decode cX0_smooth 85 = .ok (.return_, 1) := by decide +kernel
theorem dX0_reduce_0 : decode cX0_reduce 0 = .ok (.aload_n 0, 1) := by decide +kernel
theorem dX0_reduce_1 : decode cX0_reduce 1 = .ok (.getfield 9, 3) := by decide +kernel
theorem dX0_reduce_4 : decode cX0_reduce 4 = .ok (.lstore_n 1, 1) := by decide +kernel
theorem dX0_reduce_5 : decode cX0_reduce 5 = .ok (.aload_n 0, 1) := by decide +kernel
theorem dX0_reduce_6 : decode cX0_reduce 6 = .ok (.getfield 17, 3) := by decide +kernel
theorem dX0_reduce_9 : decode cX0_reduce 9 = .ok (.lstore_n 3, 1) := by decide +kernel
theorem dX0_reduce_10 : decode cX0_reduce 10 = .ok (.iconst 0, 1) := by decide +kernel
theorem dX0_reduce_11 : decode cX0_reduce 11 = .ok (.istore 5, 2) := by decide +kernel
theorem dX0_reduce_13 : decode cX0_reduce 13 = .ok (.iload 5, 2) := by decide +kernel
theorem dX0_reduce_15 : decode cX0_reduce 15 = .ok (.sipush 1000, 3) := by decide +kernel
theorem dX0_reduce_18 : decode cX0_reduce 18 = .ok (.if_icmp .ge 25, 3) := by decide +kernel
theorem dX0_reduce_21 : decode cX0_reduce 21 = .ok (.lload_n 3, 1) := by decide +kernel
theorem dX0_reduce_22 : decode cX0_reduce 22 = .ok (.lconst 0, 1) := by decide +kernel
theorem dX0_reduce_23 : decode cX0_reduce 23 = .ok (.lcmp, 1) := by decide +kernel
theorem dX0_reduce_24 : decode cX0_reduce 24 = .ok (.ifCond .eq 19, 3) := by decide +kernel
theorem dX0_reduce_27 : decode cX0_reduce 27 = .ok (.lload_n 1, 1) := by decide +kernel
theorem dX0_reduce_28 : decode cX0_reduce 28 = .ok (.lload_n 3, 1) := by decide +kernel
theorem dX0_reduce_29 : decode cX0_reduce 29 = .ok (.lrem, 1) := by decide +kernel
theorem dX0_reduce_30 : decode cX0_reduce 30 = .ok (.lstore 6, 2) := by decide +kernel
theorem dX0_reduce_32 : decode cX0_reduce 32 = .ok (.lload_n 3, 1) := by decide +kernel
theorem dX0_reduce_33 : decode cX0_reduce 33 = .ok (.lstore_n 1, 1) := by decide +kernel
theorem dX0_reduce_34 : decode cX0_reduce 34 = .ok (.lload 6, 2) := by decide +kernel
theorem dX0_reduce_36 : decode cX0_reduce 36 = .ok (.lstore_n 3, 1) := by decide +kernel
theorem dX0_reduce_37 : decode cX0_reduce 37 = .ok (.iinc 5 1, 3) := by decide +kernel
theorem dX0_reduce_40 : decode cX0_reduce 40 = .ok (.goto (-27), 3) := by decide +kernel
theorem dX0_reduce_43 : decode cX0_reduce 43 = .ok (.lload_n 1, 1) := by decide +kernel
theorem dX0_reduce_44 : decode cX0_reduce 44 = .ok (.lconst 1, 1) := by decide +kernel
theorem dX0_reduce_45 : decode cX0_reduce 45 = .ok (.lcmp, 1) := by decide +kernel
theorem dX0_reduce_46 : decode cX0_reduce 46 = .ok (.ifCond .le 23, 3) := by decide +kernel
theorem dX0_reduce_49 : decode cX0_reduce 49 = .ok (.aload_n 0, 1) := by decide +kernel
theorem dX0_reduce_50 : decode cX0_reduce 50 = .ok (.dup, 1) := by decide +kernel
theorem dX0_reduce_51 : decode cX0_reduce 51 = .ok (.getfield 9, 3) := by decide +kernel
theorem dX0_reduce_54 : decode cX0_reduce 54 = .ok (.lload_n 1, 1) := by decide +kernel
theorem dX0_reduce_55 : decode cX0_reduce 55 = .ok (.ldiv, 1) := by decide +kernel
theorem dX0_reduce_56 : decode cX0_reduce 56 = .ok (.putfield 9, 3) := by decide +kernel
theorem dX0_reduce_59 : decode cX0_reduce 59 = .ok (.aload_n 0, 1) := by decide +kernel
theorem dX0_reduce_60 : decode cX0_reduce 60 = .ok (.dup, 1) := by decide +kernel
theorem dX0_reduce_61 : decode cX0_reduce 61 = .ok (.getfield 17, 3) := by decide +kernel
theorem dX0_reduce_64 : decode cX0_reduce 64 = .ok (.lload_n 1, 1) := by decide +kernel
theorem dX0_reduce_65 : decode cX0_reduce 65 = .ok (.ldiv, 1) := by decide +kernel
theorem dX0_reduce_66 : decode cX0_reduce 66 = .ok (.putfield 17, 3) := by decide +kernel
theorem dX0_reduce_69 : decode cX0_reduce 69 = .ok (.return_, 1) := by decide +kernel
theorem dX1_init_0 : decode cX1_init 0 = .ok (.aload_n 0, 1) := by decide +kernel
theorem dX1_init_1 : decode cX1_init 1 = .ok (.invokespecial 3, 3) := by decide +kernel
theorem dX1_init_4 : decode cX1_init 4 = .ok (.aload_n 0, 1) := by decide +kernel
theorem dX1_init_5 : decode cX1_init 5 = .ok (.bipush 7, 2) := by decide +kernel
theorem dX1_init_7 : decode cX1_init 7 = .ok (.newarray .int, 2) := by decide +kernel
theorem dX1_init_9 : decode cX1_init 9 = .ok (.putfield 9, 3) := by decide +kernel
theorem dX1_init_12 : decode cX1_init 12 = .ok (.aload_n 0, 1) := by decide +kernel
theorem dX1_init_13 : decode cX1_init 13 = .ok (.bipush 49, 2) := by decide +kernel
theorem dX1_init_15 : decode cX1_init 15 = .ok (.newarray .int, 2) := by decide +kernel
theorem dX1_init_17 : decode cX1_init 17 = .ok (.putfield 15, 3) := by decide +kernel
theorem dX1_init_20 : decode cX1_init 20 = .ok (.aload_n 0, 1) := by decide +kernel
theorem dX1_init_21 : decode cX1_init 21 = .ok (.sipush 343, 3) := by decide +kernel
theorem dX1_init_24 : decode cX1_init 24 = .ok (.newarray .int, 2) := by decide +kernel
theorem dX1_init_26 : decode cX1_init 26 = .ok (.putfield 18, 3) := by decide +kernel
theorem dX1_init_29 : decode cX1_init 29 = .ok (.aload_n 0, 1) := by decide +kernel
theorem dX1_init_30 : decode cX1_init 30 = .ok (.iconst 3, 1) := by decide +kernel
theorem dX1_init_31 : decode cX1_init 31 = .ok (.putfield 21, 3) := by decide +kernel
theorem dX1_init_34 : decode cX1_init 34 = .ok (.return_, 1) := by decide +kernel
theorem dX1_addEvent_0 : decode cX1_addEvent 0 = .ok (.aload_n 0, 1) := by decide +kernel
theorem dX1_addEvent_1 : decode cX1_addEvent 1 = .ok (.getfield 9, 3) := by decide +kernel
theorem dX1_addEvent_4 : decode cX1_addEvent 4 = .ok (.iload_n 3, 1) := by decide +kernel
theorem dX1_addEvent_5 : decode cX1_addEvent 5 = .ok (.dup2, 1) := by decide +kernel
theorem dX1_addEvent_6 : decode cX1_addEvent 6 = .ok (.iaload, 1) := by decide +kernel
theorem dX1_addEvent_7 : decode cX1_addEvent 7 = .ok (.iload 4, 2) := by decide +kernel
theorem dX1_addEvent_9 : decode cX1_addEvent 9 = .ok (.iadd, 1) := by decide +kernel
theorem dX1_addEvent_10 : decode cX1_addEvent 10 = .ok (.iastore, 1) := by decide +kernel
theorem dX1_addEvent_11 : decode cX1_addEvent 11 = .ok (.aload_n 0, 1) := by decide +kernel
theorem dX1_addEvent_12 : decode cX1_addEvent 12 = .ok (.getfield 15, 3) := by decide +kernel
theorem dX1_addEvent_15 : decode cX1_addEvent 15 = .ok (.iconst 2, 1) := by decide +kernel
theorem dX1_addEvent_16 : decode cX1_addEvent 16 = .ok (.iload_n 1, 1) := by decide +kernel
theorem dX1_addEvent_17 : decode cX1_addEvent 17 = .ok (.iload_n 2, 1) := by decide +kernel
theorem dX1_addEvent_18 : decode cX1_addEvent 18 = .ok (.invokestatic 25, 3) := by decide +kernel
theorem dX1_addEvent_21 : decode cX1_addEvent 21 = .ok (.bipush 7, 2) := by decide +kernel
theorem dX1_addEvent_23 : decode cX1_addEvent 23 = .ok (.imul, 1) := by decide +kernel
theorem dX1_addEvent_24 : decode cX1_addEvent 24 = .ok (.iload_n 3, 1) := by decide +kernel
theorem dX1_addEvent_25 : decode cX1_addEvent 25 = .ok (.iadd, 1) := by decide +kernel
theorem dX1_addEvent_26 : decode cX1_addEvent 26 = .ok (.dup2, 1) := by decide +kernel
theorem dX1_addEvent_27 : decode cX1_addEvent 27 = .ok (.iaload, 1) := by decide +kernel
theorem dX1_addEvent_28 : decode cX1_addEvent 28 = .ok (.iload 4, 2) := by decide +kernel
theorem dX1_addEvent_30 : decode cX1_addEvent 30 = .ok (.iadd, 1) := by decide +kernel
theorem dX1_addEvent_31 : decode cX1_addEvent 31 = .ok (.iastore, 1) := by decide +kernel
theorem dX1_addEvent_32 : decode cX1_addEvent 32 = .ok (.aload_n 0, 1) := by decide +kernel
theorem dX1_addEvent_33 : decode cX1_addEvent 33 = .ok (.getfield 18, 3) := by decide +kernel
theorem dX1_addEvent_36 : decode cX1_addEvent 36 = .ok (.iconst 3, 1) := by decide +kernel
theorem dX1_addEvent_37 : decode cX1_addEvent 37 = .ok (.iload_n 1, 1) := by decide +kernel
theorem dX1_addEvent_38 : decode cX1_addEvent 38 = .ok (.iload_n 2, 1) := by decide +kernel
theorem dX1_addEvent_39 : decode cX1_addEvent 39 = .ok (.invokestatic 25, 3) := by decide +kernel
theorem dX1_addEvent_42 : decode cX1_addEvent 42 = .ok (.bipush 7, 2) := by decide +kernel
theorem dX1_addEvent_44 : decode cX1_addEvent 44 = .ok (.imul, 1) := by decide +kernel
theorem dX1_addEvent_45 : decode cX1_addEvent 45 = .ok (.iload_n 3, 1) := by decide +kernel
theorem dX1_addEvent_46 : decode cX1_addEvent 46 = .ok (.iadd, 1) := by decide +kernel
theorem dX1_addEvent_47 : decode cX1_addEvent 47 = .ok (.dup2, 1) := by decide +kernel
theorem dX1_addEvent_48 : decode cX1_addEvent 48 = .ok (.iaload, 1) := by decide +kernel
theorem dX1_addEvent_49 : decode cX1_addEvent 49 = .ok (.iload 4, 2) := by decide +kernel
theorem dX1_addEvent_51 : decode cX1_addEvent 51 = .ok (.iadd, 1) := by decide +kernel
theorem dX1_addEvent_52 : decode cX1_addEvent 52 = .ok (.iastore, 1) := by decide +kernel
theorem dX1_addEvent_53 : decode cX1_addEvent 53 = .ok (.return_, 1) := by decide +kernel
theorem dX1_ofRow_0 : decode cX1_ofRow 0 = .ok (.iload_n 1, 1) := by decide +kernel
theorem dX1_ofRow_1 : decode cX1_ofRow 1 = .ok (.aload_n 0, 1) := by decide +kernel
theorem dX1_ofRow_2 : decode cX1_ofRow 2 = .ok (.getfield 21, 3) := by decide +kernel
theorem dX1_ofRow_5 : decode cX1_ofRow 5 = .ok (.if_icmp .le 5, 3) := by decide +kernel
theorem dX1_ofRow_8 : decode cX1_ofRow 8 = .ok (.iconst 0, 1) := by decide +kernel
theorem dX1_ofRow_9 : decode cX1_ofRow 9 = .ok (.ireturn, 1) := by decide +kernel
theorem dX1_ofRow_10 : decode cX1_ofRow 10 = .ok (.iload_n 1, 1) := by decide +kernel
theorem dX1_ofRow_11 : decode cX1_ofRow 11 = .ok (.aload_n 0, 1) := by decide +kernel
theorem dX1_ofRow_12 : decode cX1_ofRow 12 = .ok (.getfield 21, 3) := by decide +kernel
theorem dX1_ofRow_15 : decode cX1_ofRow 15 = .ok (.if_icmp .ne 12, 3) := by decide +kernel
theorem dX1_ofRow_18 : decode cX1_ofRow 18 = .ok (.aload_n 0, 1) := by decide +kernel
theorem dX1_ofRow_19 : decode cX1_ofRow 19 = .ok (.iload_n 1, 1) := by decide +kernel
theorem dX1_ofRow_20 : decode cX1_ofRow 20 = .ok (.iload_n 2, 1) := by decide +kernel
theorem dX1_ofRow_21 : decode cX1_ofRow 21 = .ok (.invokevirtual 29, 3) := by decide +kernel
theorem dX1_ofRow_24 : decode cX1_ofRow 24 = .ok (.goto 9, 3) := by decide +kernel
theorem dX1_ofRow_27 : decode cX1_ofRow 27 = .ok (.aload_n 0, 1) := by decide +kernel
theorem dX1_ofRow_28 : decode cX1_ofRow 28 = .ok (.iload_n 1, 1) := by decide +kernel
theorem dX1_ofRow_29 : decode cX1_ofRow 29 = .ok (.iload_n 2, 1) := by decide +kernel
theorem dX1_ofRow_30 : decode cX1_ofRow 30 = .ok (.invokevirtual 33, 3) := by decide +kernel
theorem dX1_ofRow_33 : decode cX1_ofRow 33 = .ok (.ireturn, 1) := by decide +kernel
theorem dX1_rawOf_0 : decode cX1_rawOf 0 = .ok (.iload_n 1, 1) := by decide +kernel
theorem dX1_rawOf_1 : decode cX1_rawOf 1 = .ok (.iconst 1, 1) := by decide +kernel
theorem dX1_rawOf_2 : decode cX1_rawOf 2 = .ok (.if_icmp .ne 10, 3) := by decide +kernel
theorem dX1_rawOf_5 : decode cX1_rawOf 5 = .ok (.aload_n 0, 1) := by decide +kernel
theorem dX1_rawOf_6 : decode cX1_rawOf 6 = .ok (.getfield 9, 3) := by decide +kernel
theorem dX1_rawOf_9 : decode cX1_rawOf 9 = .ok (.iload_n 2, 1) := by decide +kernel
theorem dX1_rawOf_10 : decode cX1_rawOf 10 = .ok (.iaload, 1) := by decide +kernel
theorem dX1_rawOf_11 : decode cX1_rawOf 11 = .ok (.ireturn, 1) := by decide +kernel
theorem dX1_rawOf_12 : decode cX1_rawOf 12 = .ok (.iload_n 1, 1) := by decide +kernel
theorem dX1_rawOf_13 : decode cX1_rawOf 13 = .ok (.iconst 2, 1) := by decide +kernel
theorem dX1_rawOf_14 : decode cX1_rawOf 14 = .ok (.if_icmp .ne 12, 3) := by decide +kernel
theorem dX1_rawOf_17 : decode cX1_rawOf 17 = .ok (.aload_n 0, 1) := by decide +kernel
theorem dX1_rawOf_18 : decode cX1_rawOf 18 = .ok (.getfield 15, 3) := by decide +kernel
theorem dX1_rawOf_21 : decode cX1_rawOf 21 = .ok (.iload_n 2, 1) := by decide +kernel
theorem dX1_rawOf_22 : decode cX1_rawOf 22 = .ok (.iaload, 1) := by decide +kernel
theorem dX1_rawOf_23 : decode cX1_rawOf 23 = .ok (.goto 9, 3) := by decide +kernel
theorem dX1_rawOf_26 : decode cX1_rawOf 26 = .ok (.aload_n 0, 1) := by decide +kernel
theorem dX1_rawOf_27 : decode cX1_rawOf 27 = .ok (.getfield 18, 3) := by decide +kernel
theorem dX1_rawOf_30 : decode cX1_rawOf 30 = .ok (.iload_n 2, 1) := by decide +kernel
theorem dX1_rawOf_31 : decode cX1_rawOf 31 = .ok (.iaload, 1) := by decide +kernel
theorem dX1_rawOf_32 : decode cX1_rawOf 32 = .ok (.ireturn, 1) := by decide +kernel
theorem dX1_symbolsBefore_0 : decode cX1_symbolsBefore 0 = .ok (.iconst 0, 1) := by decide +kernel
theorem dX1_symbolsBefore_1 : decode cX1_symbolsBefore 1 = .ok (.istore_n 3, 1) := by decide +kernel
theorem dX1_symbolsBefore_2 : decode cX1_symbolsBefore 2 = .ok (.iconst 0, 1) := by decide +kernel
theorem dX1_symbolsBefore_3 : decode cX1_symbolsBefore 3 = .ok (.istore 4, 2) := by decide +kernel
theorem dX1_symbolsBefore_5 : decode cX1_symbolsBefore 5 = .ok (.iload 4, 2) := by decide +kernel
theorem dX1_symbolsBefore_7 : decode cX1_symbolsBefore 7 = .ok (.bipush 7, 2) := by decide +kernel
theorem dX1_symbolsBefore_9 : decode cX1_symbolsBefore 9 = .ok (.if_icmp .ge 31, 3) := by decide +kernel
theorem dX1_symbolsBefore_12 : decode cX1_symbolsBefore 12 = .ok (.aload_n 0, 1) := by decide +kernel
theorem dX1_symbolsBefore_13 : decode cX1_symbolsBefore 13 = .ok (.iload_n 1, 1) := by decide +kernel
theorem dX1_symbolsBefore_14 : decode cX1_symbolsBefore 14 = .ok (.iconst 1, 1) := by decide +kernel
theorem dX1_symbolsBefore_15 : decode cX1_symbolsBefore 15 = .ok (.iadd, 1) := by decide +kernel
theorem dX1_symbolsBefore_16 : decode cX1_symbolsBefore 16 = .ok (.iload 4, 2) := by decide +kernel
theorem dX1_symbolsBefore_18 : decode cX1_symbolsBefore 18 = .ok (.iload_n 1, 1) := by decide +kernel
theorem dX1_symbolsBefore_19 : decode cX1_symbolsBefore 19 = .ok (.invokestatic 36, 3) := by decide +kernel
theorem dX1_symbolsBefore_22 : decode cX1_symbolsBefore 22 = .ok (.imul, 1) := by decide +kernel
theorem dX1_symbolsBefore_23 : decode cX1_symbolsBefore 23 = .ok (.iload_n 2, 1) := by decide +kernel
theorem dX1_symbolsBefore_24 : decode cX1_symbolsBefore 24 = .ok (.iadd, 1) := by decide +kernel
theorem dX1_symbolsBefore_25 : decode cX1_symbolsBefore 25 = .ok (.invokevirtual 29, 3) := by decide +kernel
theorem dX1_symbolsBefore_28 : decode cX1_symbolsBefore 28 = .ok (.ifCond .le 6, 3) := by decide +kernel
theorem dX1_symbolsBefore_31 : decode cX1_symbolsBefore 31 = .ok (.iinc 3 1, 3) := by decide +kernel
theorem dX1_symbolsBefore_34 : decode cX1_symbolsBefore 34 = .ok (.iinc 4 1, 3) := by decide +kernel
theorem dX1_symbolsBefore_37 : decode cX1_symbolsBefore 37 = .ok (.goto (-32), 3) := by decide +kernel
theorem dX1_symbolsBefore_40 : decode cX1_symbolsBefore 40 = .ok (.iload_n 3, 1) := by decide +kernel
theorem dX1_symbolsBefore_41 : decode cX1_symbolsBefore 41 = .ok (.ireturn, 1) := by decide +kernel
theorem dX1_sumBehind_0 : decode cX1_sumBehind 0 = .ok (.iconst 0, 1) := by decide +kernel
theorem dX1_sumBehind_1 : decode cX1_sumBehind 1 = .ok (.istore_n 3, 1) := by decide +kernel
theorem dX1_sumBehind_2 : decode cX1_sumBehind 2 = .ok (.iconst 0, 1) := by decide +kernel
theorem dX1_sumBehind_3 : decode cX1_sumBehind 3 = .ok (.istore 4, 2) := by decide +kernel
theorem dX1_sumBehind_5 : decode cX1_sumBehind 5 = .ok (.iload 4, 2) := by decide +kernel
theorem dX1_sumBehind_7 : decode cX1_sumBehind 7 = .ok (.bipush 6, 2) := by decide +kernel
theorem dX1_sumBehind_9 : decode cX1_sumBehind 9 = .ok (.if_icmp .ge 24, 3) := by decide +kernel
theorem dX1_sumBehind_12 : decode cX1_sumBehind 12 = .ok (.iload_n 3, 1) := by decide +kernel
theorem dX1_sumBehind_13 : decode cX1_sumBehind 13 = .ok (.aload_n 0, 1) := by decide +kernel
theorem dX1_sumBehind_14 : decode cX1_sumBehind 14 = .ok (.iload_n 1, 1) := by decide +kernel
theorem dX1_sumBehind_15 : decode cX1_sumBehind 15 = .ok (.iload_n 2, 1) := by decide +kernel
theorem dX1_sumBehind_16 : decode cX1_sumBehind 16 = .ok (.bipush 7, 2) := by decide +kernel
theorem dX1_sumBehind_18 : decode cX1_sumBehind 18 = .ok (.imul, 1) := by decide +kernel
theorem dX1_sumBehind_19 : decode cX1_sumBehind 19 = .ok (.iload 4, 2) := by decide +kernel
theorem dX1_sumBehind_21 : decode cX1_sumBehind 21 = .ok (.iadd, 1) := by decide +kernel
theorem dX1_sumBehind_22 : decode cX1_sumBehind 22 = .ok (.invokevirtual 40, 3) := by decide +kernel
theorem dX1_sumBehind_25 : decode cX1_sumBehind 25 = .ok (.iadd, 1) := by decide +kernel
theorem dX1_sumBehind_26 : decode cX1_sumBehind 26 = .ok (.istore_n 3, 1) := by decide +kernel
theorem dX1_sumBehind_27 : decode cX1_sumBehind 27 = .ok (.iinc 4 1, 3) := by decide +kernel
theorem dX1_sumBehind_30 : decode cX1_sumBehind 30 = .ok (.goto (-25), 3) := by decide +kernel
theorem dX1_sumBehind_33 : decode cX1_sumBehind 33 = .ok (.iload_n 3, 1) := by decide +kernel
theorem dX1_sumBehind_34 : decode cX1_sumBehind 34 = .ok (.ireturn, 1) := by decide +kernel
theorem dX1_kindsBehind_0 : decode cX1_kindsBehind 0 = .ok (.iconst 0, 1) := by decide +kernel
theorem dX1_kindsBehind_1 : decode cX1_kindsBehind 1 = .ok (.istore_n 3, 1) := by decide +kernel
theorem dX1_kindsBehind_2 : decode cX1_kindsBehind 2 = .ok (.iconst 0, 1) := by decide +kernel
theorem dX1_kindsBehind_3 : decode cX1_kindsBehind 3 = .ok (.istore 4, 2) := by decide +kernel
theorem dX1_kindsBehind_5 : decode cX1_kindsBehind 5 = .ok (.iload 4, 2) := by decide +kernel
theorem dX1_kindsBehind_7 : decode cX1_kindsBehind 7 = .ok (.bipush 6, 2) := by decide +kernel
theorem dX1_kindsBehind_9 : decode cX1_kindsBehind 9 = .ok (.if_icmp .ge 27, 3) := by decide +kernel
theorem dX1_kindsBehind_12 : decode cX1_kindsBehind 12 = .ok (.aload_n 0, 1) := by decide +kernel
theorem dX1_kindsBehind_13 : decode cX1_kindsBehind 13 = .ok (.iload_n 1, 1) := by decide +kernel
theorem dX1_kindsBehind_14 : decode cX1_kindsBehind 14 = .ok (.iload_n 2, 1) := by decide +kernel
theorem dX1_kindsBehind_15 : decode cX1_kindsBehind 15 = .ok (.bipush 7, 2) := by decide +kernel
theorem dX1_kindsBehind_17 : decode cX1_kindsBehind 17 = .ok (.imul, 1) := by decide +kernel
theorem dX1_kindsBehind_18 : decode cX1_kindsBehind 18 = .ok (.iload 4, 2) := by decide +kernel
theorem dX1_kindsBehind_20 : decode cX1_kindsBehind 20 = .ok (.iadd, 1) := by decide +kernel
theorem dX1_kindsBehind_21 : decode cX1_kindsBehind 21 = .ok (.invokevirtual 40, 3) := by decide +kernel
theorem dX1_kindsBehind_24 : decode cX1_kindsBehind 24 = .ok (.ifCond .le 6, 3) := by decide +kernel
theorem dX1_kindsBehind_27 : decode cX1_kindsBehind 27 = .ok (.iinc 3 1, 3) := by decide +kernel
theorem dX1_kindsBehind_30 : decode cX1_kindsBehind 30 = .ok (.iinc 4 1, 3) := by decide +kernel
theorem dX1_kindsBehind_33 : decode cX1_kindsBehind 33 = .ok (.goto (-28), 3) := by decide +kernel
theorem dX1_kindsBehind_36 : decode cX1_kindsBehind 36 = .ok (.iload_n 3, 1) := by decide +kernel
theorem dX1_kindsBehind_37 : decode cX1_kindsBehind 37 = .ok (.ireturn, 1) := by decide +kernel
theorem dX2_init_0 : decode cX2_init 0 = .ok (.aload_n 0, 1) := by decide +kernel
theorem dX2_init_1 : decode cX2_init 1 = .ok (.invokespecial 1, 3) := by decide +kernel
theorem dX2_init_4 : decode cX2_init 4 = .ok (.aload_n 0, 1) := by decide +kernel
theorem dX2_init_5 : decode cX2_init 5 = .ok (.iload_n 1, 1) := by decide +kernel
theorem dX2_init_6 : decode cX2_init 6 = .ok (.newarray .int, 2) := by decide +kernel
theorem dX2_init_8 : decode cX2_init 8 = .ok (.putfield 7, 3) := by decide +kernel
theorem dX2_init_11 : decode cX2_init 11 = .ok (.return_, 1) := by decide +kernel
theorem dX2_setOne_0 : decode cX2_setOne 0 = .ok (.iconst 0, 1) := by decide +kernel
theorem dX2_setOne_1 : decode cX2_setOne 1 = .ok (.istore_n 1, 1) := by decide +kernel
theorem dX2_setOne_2 : decode cX2_setOne 2 = .ok (.iload_n 1, 1) := by decide +kernel
theorem dX2_setOne_3 : decode cX2_setOne 3 = .ok (.aload_n 0, 1) := by decide +kernel
theorem dX2_setOne_4 : decode cX2_setOne 4 = .ok (.getfield 7, 3) := by decide +kernel
theorem dX2_setOne_7 : decode cX2_setOne 7 = .ok (.arraylength, 1) := by decide +kernel
theorem dX2_setOne_8 : decode cX2_setOne 8 = .ok (.if_icmp .ge 24, 3) := by decide +kernel
theorem dX2_setOne_11 : decode cX2_setOne 11 = .ok (.aload_n 0, 1) := by decide +kernel
theorem dX2_setOne_12 : decode cX2_setOne 12 = .ok (.getfield 7, 3) := by decide +kernel
theorem dX2_setOne_15 : decode cX2_setOne 15 = .ok (.iload_n 1, 1) := by decide +kernel
theorem dX2_setOne_16 : decode cX2_setOne 16 = .ok (.iload_n 1, 1) := by decide +kernel
theorem dX2_setOne_17 : decode cX2_setOne 17 = .ok (.ifCond .ne 7, 3) := by decide +kernel
theorem dX2_setOne_20 : decode cX2_setOne 20 = .ok (.iconst 1, 1) := by decide +kernel
theorem dX2_setOne_21 : decode cX2_setOne 21 = .ok (.goto 4, 3) := by decide +kernel
theorem dX2_setOne_24 : decode cX2_setOne 24 = .ok (.iconst 0, 1) := by decide +kernel
theorem dX2_setOne_25 : decode cX2_setOne 25 = .ok (.iastore, 1) := by decide +kernel
theorem dX2_setOne_26 : decode cX2_setOne 26 = .ok (.iinc 1 1, 3) := by decide +kernel
theorem dX2_setOne_29 : decode cX2_setOne 29 = .ok (.goto (-27), 3) := by decide +kernel
theorem dX2_setOne_32 : decode cX2_setOne 32 = .ok (.return_, 1) := by decide +kernel
theorem dX2_multiply_0 : decode cX2_multiply 0 = .ok (.lconst 0, 1) := by decide +kernel
theorem dX2_multiply_1 : decode cX2_multiply 1 = .ok (.lstore_n 3, 1) := by decide +kernel
theorem dX2_multiply_2 : decode cX2_multiply 2 = .ok (.iconst 0, 1) := by decide +kernel
theorem dX2_multiply_3 : decode cX2_multiply 3 = .ok (.istore 5, 2) := by decide +kernel
theorem dX2_multiply_5 : decode cX2_multiply 5 = .ok (.iload 5, 2) := by decide +kernel
theorem dX2_multiply_7 : decode cX2_multiply 7 = .ok (.aload_n 0, 1) := by decide +kernel
theorem dX2_multiply_8 : decode cX2_multiply 8 = .ok (.getfield 7, 3) := by decide +kernel
theorem dX2_multiply_11 : decode cX2_multiply 11 = .ok (.arraylength, 1) := by decide +kernel
theorem dX2_multiply_12 : decode cX2_multiply 12 = .ok (.if_icmp .ge 43, 3) := by decide +kernel
theorem dX2_multiply_15 : decode cX2_multiply 15 = .ok (.aload_n 0, 1) := by decide +kernel
theorem dX2_multiply_16 : decode cX2_multiply 16 = .ok (.getfield 7, 3) := by decide +kernel
theorem dX2_multiply_19 : decode cX2_multiply 19 = .ok (.iload 5, 2) := by decide +kernel
theorem dX2_multiply_21 : decode cX2_multiply 21 = .ok (.iaload, 1) := by decide +kernel
theorem dX2_multiply_22 : decode cX2_multiply 22 = .ok (.i2l, 1) := by decide +kernel
theorem dX2_multiply_23 : decode cX2_multiply 23 = .ok (.ldc2_w 17, 3) := by decide +kernel
theorem dX2_multiply_26 : decode cX2_multiply 26 = .ok (.land, 1) := by decide +kernel
theorem dX2_multiply_27 : decode cX2_multiply 27 = .ok (.lload_n 1, 1) := by decide +kernel
theorem dX2_multiply_28 : decode cX2_multiply 28 = .ok (.lmul, 1) := by decide +kernel
theorem dX2_multiply_29 : decode cX2_multiply 29 = .ok (.lload_n 3, 1) := by decide +kernel
theorem dX2_multiply_30 : decode cX2_multiply 30 = .ok (.ladd, 1) := by decide +kernel
theorem dX2_multiply_31 : decode cX2_multiply 31 = .ok (.lstore 6, 2) := by decide +kernel
theorem dX2_multiply_33 : decode cX2_multiply 33 = .ok (.aload_n 0, 1) := by decide +kernel
theorem dX2_multiply_34 : decode cX2_multiply 34 = .ok (.getfield 7, 3) := by decide +kernel
theorem dX2_multiply_37 : decode cX2_multiply 37 = .ok (.iload 5, 2) := by decide +kernel
theorem dX2_multiply_39 : decode cX2_multiply 39 = .ok (.lload 6, 2) := by decide +kernel
theorem dX2_multiply_41 : decode cX2_multiply 41 = .ok (.l2i, 1) := by decide +kernel
theorem dX2_multiply_42 : decode cX2_multiply 42 = .ok (.iastore, 1) := by decide +kernel
theorem dX2_multiply_43 : decode cX2_multiply 43 = .ok (.lload 6, 2) := by decide +kernel
theorem dX2_multiply_45 : decode cX2_multiply 45 = .ok (.bipush 32, 2) := by decide +kernel
theorem dX2_multiply_47 : decode cX2_multiply 47 = .ok (.lushr, 1) := by decide +kernel
theorem dX2_multiply_48 : decode cX2_multiply 48 = .ok (.lstore_n 3, 1) := by decide +kernel
theorem dX2_multiply_49 : decode cX2_multiply 49 = .ok (.iinc 5 1, 3) := by decide +kernel
theorem dX2_multiply_52 : decode cX2_multiply 52 = .ok (.goto (-47), 3) := by decide +kernel
theorem dX2_multiply_55 : decode cX2_multiply 55 = .ok (.return_, 1) := by decide +kernel
theorem dX2_part_0 : decode cX2_part 0 = .ok (.iload_n 1, 1) := by decide +kernel
theorem dX2_part_1 : decode cX2_part 1 = .ok (.ifCond .lt 21, 3) := by decide +kernel
theorem dX2_part_4 : decode cX2_part 4 = .ok (.iload_n 1, 1) := by decide +kernel
theorem dX2_part_5 : decode cX2_part 5 = .ok (.aload_n 0, 1) := by decide +kernel
theorem dX2_part_6 : decode cX2_part 6 = .ok (.getfield 7, 3) := by decide +kernel
theorem dX2_part_9 : decode cX2_part 9 = .ok (.arraylength, 1) := by decide +kernel
theorem dX2_part_10 : decode cX2_part 10 = .ok (.if_icmp .ge 12, 3) := by decide +kernel
theorem dX2_part_13 : decode cX2_part 13 = .ok (.aload_n 0, 1) := by decide +kernel
theorem dX2_part_14 : decode cX2_part 14 = .ok (.getfield 7, 3) := by decide +kernel
theorem dX2_part_17 : decode cX2_part 17 = .ok (.iload_n 1, 1) := by decide +kernel
theorem dX2_part_18 : decode cX2_part 18 = .ok (.iaload, 1) := by decide +kernel
theorem dX2_part_19 : decode cX2_part 19 = .ok (.goto 4, 3) := by decide +kernel
theorem dX2_part_22 : decode cX2_part 22 = .ok (.iconst 0, 1) := by decide +kernel
theorem dX2_part_23 : decode cX2_part 23 = .ok (.ireturn, 1) := by decide +kernel
theorem dX2_copy_0 : decode cX2_copy 0 = .ok (.iconst 0, 1) := by decide +kernel
theorem dX2_copy_1 : decode cX2_copy 1 = .ok (.istore_n 2, 1) := by decide +kernel
theorem dX2_copy_2 : decode cX2_copy 2 = .ok (.iload_n 2, 1) := by decide +kernel
theorem dX2_copy_3 : decode cX2_copy 3 = .ok (.aload_n 0, 1) := by decide +kernel
theorem dX2_copy_4 : decode cX2_copy 4 = .ok (.getfield 7, 3) := by decide +kernel
theorem dX2_copy_7 : decode cX2_copy 7 = .ok (.arraylength, 1) := by decide +kernel
theorem dX2_copy_8 : decode cX2_copy 8 = .ok (.if_icmp .ge 20, 3) := by decide +kernel
theorem dX2_copy_11 : decode cX2_copy 11 = .ok (.aload_n 0, 1) := by decide +kernel
theorem dX2_copy_12 : decode cX2_copy 12 = .ok (.getfield 7, 3) := by decide +kernel
theorem dX2_copy_15 : decode cX2_copy 15 = .ok (.iload_n 2, 1) := by decide +kernel
theorem dX2_copy_16 : decode cX2_copy 16 = .ok (.aload_n 1, 1) := by decide +kernel
theorem dX2_copy_17 : decode cX2_copy 17 = .ok (.iload_n 2, 1) := by decide +kernel
theorem dX2_copy_18 : decode cX2_copy 18 = .ok (.invokevirtual 13, 3) := by decide +kernel
theorem dX2_copy_21 : decode cX2_copy 21 = .ok (.iastore, 1) := by decide +kernel
theorem dX2_copy_22 : decode cX2_copy 22 = .ok (.iinc 2 1, 3) := by decide +kernel
theorem dX2_copy_25 : decode cX2_copy 25 = .ok (.goto (-23), 3) := by decide +kernel
theorem dX2_copy_28 : decode cX2_copy 28 = .ok (.return_, 1) := by decide +kernel
theorem dX2_setProduct_0 : decode cX2_setProduct 0 = .ok (.iconst 0, 1) := by decide +kernel
theorem dX2_setProduct_1 : decode cX2_setProduct 1 = .ok (.istore_n 3, 1) := by decide +kernel
theorem dX2_setProduct_2 : decode cX2_setProduct 2 = .ok (.iload_n 3, 1) := by decide +kernel
theorem dX2_setProduct_3 : decode cX2_setProduct 3 = .ok (.aload_n 0, 1) := by decide +kernel
theorem dX2_setProduct_4 : decode cX2_setProduct 4 = .ok (.getfield 7, 3) := by decide +kernel
theorem dX2_setProduct_7 : decode cX2_setProduct 7 = .ok (.arraylength, 1) := by decide +kernel
theorem dX2_setProduct_8 : decode cX2_setProduct 8 = .ok (.if_icmp .ge 16, 3) := by decide +kernel
theorem dX2_setProduct_11 : decode cX2_setProduct 11 = .ok (.aload_n 0, 1) := by decide +kernel
theorem dX2_setProduct_12 : decode cX2_setProduct 12 = .ok (.getfield 7, 3) := by decide +kernel
theorem dX2_setProduct_15 : decode cX2_setProduct 15 = .ok (.iload_n 3, 1) := by decide +kernel
theorem dX2_setProduct_16 : decode cX2_setProduct 16 = .ok (.iconst 0, 1) := by decide +kernel
theorem dX2_setProduct_17 : decode cX2_setProduct 17 = .ok (.iastore, 1) := by decide +kernel
theorem dX2_setProduct_18 : decode cX2_setProduct 18 = .ok (.iinc 3 1, 3) := by decide +kernel
theorem dX2_setProduct_21 : decode cX2_setProduct 21 = .ok (.goto (-19), 3) := by decide +kernel
theorem dX2_setProduct_24 : decode cX2_setProduct 24 = .ok (.iconst 0, 1) := by decide +kernel
theorem dX2_setProduct_25 : decode cX2_setProduct 25 = .ok (.istore_n 3, 1) := by decide +kernel
theorem dX2_setProduct_26 : decode cX2_setProduct 26 = .ok (.iload_n 3, 1) := by decide +kernel
theorem dX2_setProduct_27 : decode cX2_setProduct 27 = .ok (.aload_n 1, 1) := by decide +kernel
theorem dX2_setProduct_28 : decode cX2_setProduct 28 = .ok (.getfield 7, 3) := by decide +kernel
theorem dX2_setProduct_31 : decode cX2_setProduct 31 = .ok (.arraylength, 1) := by decide +kernel
theorem dX2_setProduct_32 : decode cX2_setProduct 32 = .ok (.if_icmp .ge 26, 3) := by decide +kernel
theorem dX2_setProduct_35 : decode cX2_setProduct 35 = .ok (.aload_n 0, 1) := by decide +kernel
theorem dX2_setProduct_36 : decode cX2_setProduct 36 = .ok (.aload_n 2, 1) := by decide +kernel
theorem dX2_setProduct_37 : decode cX2_setProduct 37 = .ok (.aload_n 1, 1) := by decide +kernel
theorem dX2_setProduct_38 : decode cX2_setProduct 38 = .ok (.getfield 7, 3) := by decide +kernel
theorem dX2_setProduct_41 : decode cX2_setProduct 41 = .ok (.iload_n 3, 1) := by decide +kernel
theorem dX2_setProduct_42 : decode cX2_setProduct 42 = .ok (.iaload, 1) := by decide +kernel
theorem dX2_setProduct_43 : decode cX2_setProduct 43 = .ok (.i2l, 1) := by decide +kernel
theorem dX2_setProduct_44 : decode cX2_setProduct 44 = .ok (.ldc2_w 17, 3) := by decide +kernel
theorem dX2_setProduct_47 : decode cX2_setProduct 47 = .ok (.land, 1) := by decide +kernel
theorem dX2_setProduct_48 : decode cX2_setProduct 48 = .ok (.iload_n 3, 1) := by decide +kernel
theorem dX2_setProduct_49 : decode cX2_setProduct 49 = .ok (.invokevirtual 19, 3) := by decide +kernel
theorem dX2_setProduct_52 : decode cX2_setProduct 52 = .ok (.iinc 3 1, 3) := by decide +kernel
theorem dX2_setProduct_55 : decode cX2_setProduct 55 = .ok (.goto (-29), 3) := by decide +kernel
theorem dX2_setProduct_58 : decode cX2_setProduct 58 = .ok (.return_, 1) := by decide +kernel
theorem dX2_addShifted_0 : decode cX2_addShifted 0 = .ok (.lconst 0, 1) := by decide +kernel
theorem dX2_addShifted_1 : decode cX2_addShifted 1 = .ok (.lstore 5, 2) := by decide +kernel
theorem dX2_addShifted_3 : decode cX2_addShifted 3 = .ok (.iload 4, 2) := by decide +kernel
theorem dX2_addShifted_5 : decode cX2_addShifted 5 = .ok (.istore 7, 2) := by decide +kernel
theorem dX2_addShifted_7 : decode cX2_addShifted 7 = .ok (.iload 7, 2) := by decide +kernel
theorem dX2_addShifted_9 : decode cX2_addShifted 9 = .ok (.aload_n 0, 1) := by decide +kernel
theorem dX2_addShifted_10 : decode cX2_addShifted 10 = .ok (.getfield 7, 3) := by decide +kernel
theorem dX2_addShifted_13 : decode cX2_addShifted 13 = .ok (.arraylength, 1) := by decide +kernel
theorem dX2_addShifted_14 : decode cX2_addShifted 14 = .ok (.if_icmp .ge 60, 3) := by decide +kernel
theorem dX2_addShifted_17 : decode cX2_addShifted 17 = .ok (.aload_n 1, 1) := by decide +kernel
theorem dX2_addShifted_18 : decode cX2_addShifted 18 = .ok (.iload 7, 2) := by decide +kernel
theorem dX2_addShifted_20 : decode cX2_addShifted 20 = .ok (.iload 4, 2) := by decide +kernel
theorem dX2_addShifted_22 : decode cX2_addShifted 22 = .ok (.isub, 1) := by decide +kernel
theorem dX2_addShifted_23 : decode cX2_addShifted 23 = .ok (.invokevirtual 13, 3) := by decide +kernel
theorem dX2_addShifted_26 : decode cX2_addShifted 26 = .ok (.i2l, 1) := by decide +kernel
theorem dX2_addShifted_27 : decode cX2_addShifted 27 = .ok (.ldc2_w 17, 3) := by decide +kernel
theorem dX2_addShifted_30 : decode cX2_addShifted 30 = .ok (.land, 1) := by decide +kernel
theorem dX2_addShifted_31 : decode cX2_addShifted 31 = .ok (.lload_n 2, 1) := by decide +kernel
theorem dX2_addShifted_32 : decode cX2_addShifted 32 = .ok (.lmul, 1) := by decide +kernel
theorem dX2_addShifted_33 : decode cX2_addShifted 33 = .ok (.aload_n 0, 1) := by decide +kernel
theorem dX2_addShifted_34 : decode cX2_addShifted 34 = .ok (.getfield 7, 3) := by decide +kernel
theorem dX2_addShifted_37 : decode cX2_addShifted 37 = .ok (.iload 7, 2) := by decide +kernel
theorem dX2_addShifted_39 : decode cX2_addShifted 39 = .ok (.iaload, 1) := by decide +kernel
theorem dX2_addShifted_40 : decode cX2_addShifted 40 = .ok (.i2l, 1) := by decide +kernel
theorem dX2_addShifted_41 : decode cX2_addShifted 41 = .ok (.ldc2_w 17, 3) := by decide +kernel
theorem dX2_addShifted_44 : decode cX2_addShifted 44 = .ok (.land, 1) := by decide +kernel
theorem dX2_addShifted_45 : decode cX2_addShifted 45 = .ok (.ladd, 1) := by decide +kernel
theorem dX2_addShifted_46 : decode cX2_addShifted 46 = .ok (.lload 5, 2) := by decide +kernel
theorem dX2_addShifted_48 : decode cX2_addShifted 48 = .ok (.ladd, 1) := by decide +kernel
theorem dX2_addShifted_49 : decode cX2_addShifted 49 = .ok (.lstore 8, 2) := by decide +kernel
theorem dX2_addShifted_51 : decode cX2_addShifted 51 = .ok (.aload_n 0, 1) := by decide +kernel
theorem dX2_addShifted_52 : decode cX2_addShifted 52 = .ok (.getfield 7, 3) := by decide +kernel
theorem dX2_addShifted_55 : decode cX2_addShifted 55 = .ok (.iload 7, 2) := by decide +kernel
theorem dX2_addShifted_57 : decode cX2_addShifted 57 = .ok (.lload 8, 2) := by decide +kernel
theorem dX2_addShifted_59 : decode cX2_addShifted 59 = .ok (.l2i, 1) := by decide +kernel
theorem dX2_addShifted_60 : decode cX2_addShifted 60 = .ok (.iastore, 1) := by decide +kernel
theorem dX2_addShifted_61 : decode cX2_addShifted 61 = .ok (.lload 8, 2) := by decide +kernel
theorem dX2_addShifted_63 : decode cX2_addShifted 63 = .ok (.bipush 32, 2) := by decide +kernel
theorem dX2_addShifted_65 : decode cX2_addShifted 65 = .ok (.lushr, 1) := by decide +kernel
theorem dX2_addShifted_66 : decode cX2_addShifted 66 = .ok (.lstore 5, 2) := by decide +kernel
theorem dX2_addShifted_68 : decode cX2_addShifted 68 = .ok (.iinc 7 1, 3) := by decide +kernel
theorem dX2_addShifted_71 : decode cX2_addShifted 71 = .ok (.goto (-64), 3) := by decide +kernel
theorem dX2_addShifted_74 : decode cX2_addShifted 74 = .ok (.return_, 1) := by decide +kernel
theorem dX2_compare_0 : decode cX2_compare 0 = .ok (.aload_n 0, 1) := by decide +kernel
theorem dX2_compare_1 : decode cX2_compare 1 = .ok (.getfield 7, 3) := by decide +kernel
theorem dX2_compare_4 : decode cX2_compare 4 = .ok (.arraylength, 1) := by decide +kernel
theorem dX2_compare_5 : decode cX2_compare 5 = .ok (.iconst 1, 1) := by decide +kernel
theorem dX2_compare_6 : decode cX2_compare 6 = .ok (.isub, 1) := by decide +kernel
theorem dX2_compare_7 : decode cX2_compare 7 = .ok (.istore_n 2, 1) := by decide +kernel
theorem dX2_compare_8 : decode cX2_compare 8 = .ok (.iload_n 2, 1) := by decide +kernel
theorem dX2_compare_9 : decode cX2_compare 9 = .ok (.ifCond .lt 38, 3) := by decide +kernel
theorem dX2_compare_12 : decode cX2_compare 12 = .ok (.aload_n 0, 1) := by decide +kernel
theorem dX2_compare_13 : decode cX2_compare 13 = .ok (.getfield 7, 3) := by decide +kernel
theorem dX2_compare_16 : decode cX2_compare 16 = .ok (.iload_n 2, 1) := by decide +kernel
theorem dX2_compare_17 : decode cX2_compare 17 = .ok (.iaload, 1) := by decide +kernel
theorem dX2_compare_18 : decode cX2_compare 18 = .ok (.aload_n 1, 1) := by decide +kernel
theorem dX2_compare_19 : decode cX2_compare 19 = .ok (.iload_n 2, 1) := by decide +kernel
theorem dX2_compare_20 : decode cX2_compare 20 = .ok (.invokevirtual 13, 3) := by decide +kernel
theorem dX2_compare_23 : decode cX2_compare 23 = .ok (.invokestatic 23, 3) := by decide +kernel
theorem dX2_compare_26 : decode cX2_compare 26 = .ok (.istore_n 3, 1) := by decide +kernel
theorem dX2_compare_27 : decode cX2_compare 27 = .ok (.iload_n 3, 1) := by decide +kernel
theorem dX2_compare_28 : decode cX2_compare 28 = .ok (.ifCond .eq 13, 3) := by decide +kernel
theorem dX2_compare_31 : decode cX2_compare 31 = .ok (.iload_n 3, 1) := by decide +kernel
theorem dX2_compare_32 : decode cX2_compare 32 = .ok (.ifCond .ge 7, 3) := by decide +kernel
theorem dX2_compare_35 : decode cX2_compare 35 = .ok (.iconst (-1), 1) := by decide +kernel
theorem dX2_compare_36 : decode cX2_compare 36 = .ok (.goto 4, 3) := by decide +kernel
theorem dX2_compare_39 : decode cX2_compare 39 = .ok (.iconst 1, 1) := by decide +kernel
theorem dX2_compare_40 : decode cX2_compare 40 = .ok (.ireturn, 1) := by decide +kernel
theorem dX2_compare_41 : decode cX2_compare 41 = .ok (.iinc 2 (-1), 3) := by decide +kernel
theorem dX2_compare_44 : decode cX2_compare 44 = .ok (.goto (-36), 3) := by decide +kernel
theorem dX2_compare_47 : decode cX2_compare 47 = .ok (.iconst 0, 1) := by decide +kernel
theorem dX2_compare_48 : decode cX2_compare 48 = .ok (.ireturn, 1) := by decide +kernel
theorem dX3_init_0 : decode cX3_init 0 = .ok (.aload_n 0, 1) := by decide +kernel
theorem dX3_init_1 : decode cX3_init 1 = .ok (.invokespecial 1, 3) := by decide +kernel
theorem dX3_init_4 : decode cX3_init 4 = .ok (.aload_n 0, 1) := by decide +kernel
theorem dX3_init_5 : decode cX3_init 5 = .ok (.new 7, 3) := by decide +kernel
theorem dX3_init_8 : decode cX3_init 8 = .ok (.dup, 1) := by decide +kernel
theorem dX3_init_9 : decode cX3_init 9 = .ok (.bipush 9, 2) := by decide +kernel
theorem dX3_init_11 : decode cX3_init 11 = .ok (.invokespecial 11, 3) := by decide +kernel
theorem dX3_init_14 : decode cX3_init 14 = .ok (.putfield 14, 3) := by decide +kernel
theorem dX3_init_17 : decode cX3_init 17 = .ok (.aload_n 0, 1) := by decide +kernel
theorem dX3_init_18 : decode cX3_init 18 = .ok (.new 7, 3) := by decide +kernel
theorem dX3_init_21 : decode cX3_init 21 = .ok (.dup, 1) := by decide +kernel
theorem dX3_init_22 : decode cX3_init 22 = .ok (.bipush 9, 2) := by decide +kernel
theorem dX3_init_24 : decode cX3_init 24 = .ok (.invokespecial 11, 3) := by decide +kernel
theorem dX3_init_27 : decode cX3_init 27 = .ok (.putfield 18, 3) := by decide +kernel
theorem dX3_init_30 : decode cX3_init 30 = .ok (.aload_n 0, 1) := by decide +kernel
theorem dX3_init_31 : decode cX3_init 31 = .ok (.invokevirtual 21, 3) := by decide +kernel
theorem dX3_init_34 : decode cX3_init 34 = .ok (.return_, 1) := by decide +kernel
theorem dX3_setOne_0 : decode cX3_setOne 0 = .ok (.aload_n 0, 1) := by decide +kernel
theorem dX3_setOne_1 : decode cX3_setOne 1 = .ok (.getfield 14, 3) := by decide +kernel
theorem dX3_setOne_4 : decode cX3_setOne 4 = .ok (.invokevirtual 24, 3) := by decide +kernel
theorem dX3_setOne_7 : decode cX3_setOne 7 = .ok (.aload_n 0, 1) := by decide +kernel
theorem dX3_setOne_8 : decode cX3_setOne 8 = .ok (.getfield 18, 3) := by decide +kernel
theorem dX3_setOne_11 : decode cX3_setOne 11 = .ok (.invokevirtual 24, 3) := by decide +kernel
theorem dX3_setOne_14 : decode cX3_setOne 14 = .ok (.return_, 1) := by decide +kernel
theorem dX3_multiply_0 : decode cX3_multiply 0 = .ok (.aload_n 0, 1) := by decide +kernel
theorem dX3_multiply_1 : decode cX3_multiply 1 = .ok (.getfield 14, 3) := by decide +kernel
theorem dX3_multiply_4 : decode cX3_multiply 4 = .ok (.aload_n 1, 1) := by decide +kernel
theorem dX3_multiply_5 : decode cX3_multiply 5 = .ok (.getfield 25, 3) := by decide +kernel
theorem dX3_multiply_8 : decode cX3_multiply 8 = .ok (.invokevirtual 30, 3) := by decide +kernel
theorem dX3_multiply_11 : decode cX3_multiply 11 = .ok (.aload_n 0, 1) := by decide +kernel
theorem dX3_multiply_12 : decode cX3_multiply 12 = .ok (.getfield 18, 3) := by decide +kernel
theorem dX3_multiply_15 : decode cX3_multiply 15 = .ok (.aload_n 1, 1) := by decide +kernel
theorem dX3_multiply_16 : decode cX3_multiply 16 = .ok (.getfield 34, 3) := by decide +kernel
theorem dX3_multiply_19 : decode cX3_multiply 19 = .ok (.invokevirtual 30, 3) := by decide +kernel
theorem dX3_multiply_22 : decode cX3_multiply 22 = .ok (.return_, 1) := by decide +kernel
theorem dX3_copy_0 : decode cX3_copy 0 = .ok (.aload_n 0, 1) := by decide +kernel
theorem dX3_copy_1 : decode cX3_copy 1 = .ok (.getfield 14, 3) := by decide +kernel
theorem dX3_copy_4 : decode cX3_copy 4 = .ok (.aload_n 1, 1) := by decide +kernel
theorem dX3_copy_5 : decode cX3_copy 5 = .ok (.getfield 14, 3) := by decide +kernel
theorem dX3_copy_8 : decode cX3_copy 8 = .ok (.invokevirtual 36, 3) := by decide +kernel
theorem dX3_copy_11 : decode cX3_copy 11 = .ok (.aload_n 0, 1) := by decide +kernel
theorem dX3_copy_12 : decode cX3_copy 12 = .ok (.getfield 18, 3) := by decide +kernel
theorem dX3_copy_15 : decode cX3_copy 15 = .ok (.aload_n 1, 1) := by decide +kernel
theorem dX3_copy_16 : decode cX3_copy 16 = .ok (.getfield 18, 3) := by decide +kernel
theorem dX3_copy_19 : decode cX3_copy 19 = .ok (.invokevirtual 36, 3) := by decide +kernel
theorem dX3_copy_22 : decode cX3_copy 22 = .ok (.return_, 1) := by decide +kernel
theorem dX4_init_0 : decode cX4_init 0 = .ok (.aload_n 0, 1) := by decide +kernel
theorem dX4_init_1 : decode cX4_init 1 = .ok (.invokespecial 3, 3) := by decide +kernel
theorem dX4_init_4 : decode cX4_init 4 = .ok (.aload_n 0, 1) := by decide +kernel
theorem dX4_init_5 : decode cX4_init 5 = .ok (.bipush 9, 2) := by decide +kernel
theorem dX4_init_7 : decode cX4_init 7 = .ok (.bipush 8, 2) := by decide +kernel
theorem dX4_init_9 : decode cX4_init 9 = .ok (.multianewarray 9 2, 4) := by decide +kernel
theorem dX4_init_13 : decode cX4_init 13 = .ok (.putfield 11, 3) := by decide +kernel
theorem dX4_init_16 : decode cX4_init 16 = .ok (.aload_n 0, 1) := by decide +kernel
theorem dX4_init_17 : decode cX4_init 17 = .ok (.bipush 9, 2) := by decide +kernel
theorem dX4_init_19 : decode cX4_init 19 = .ok (.newarray .int, 2) := by decide +kernel
theorem dX4_init_21 : decode cX4_init 21 = .ok (.putfield 16, 3) := by decide +kernel
theorem dX4_init_24 : decode cX4_init 24 = .ok (.aload_n 0, 1) := by decide +kernel
theorem dX4_init_25 : decode cX4_init 25 = .ok (.iconst 0, 1) := by decide +kernel
theorem dX4_init_26 : decode cX4_init 26 = .ok (.putfield 20, 3) := by decide +kernel
theorem dX4_init_29 : decode cX4_init 29 = .ok (.return_, 1) := by decide +kernel
theorem dX4_append_0 : decode cX4_append 0 = .ok (.aload_n 0, 1) := by decide +kernel
theorem dX4_append_1 : decode cX4_append 1 = .ok (.getfield 16, 3) := by decide +kernel
theorem dX4_append_4 : decode cX4_append 4 = .ok (.aload_n 0, 1) := by decide +kernel
theorem dX4_append_5 : decode cX4_append 5 = .ok (.getfield 20, 3) := by decide +kernel
theorem dX4_append_8 : decode cX4_append 8 = .ok (.iaload, 1) := by decide +kernel
theorem dX4_append_9 : decode cX4_append 9 = .ok (.istore_n 2, 1) := by decide +kernel
theorem dX4_append_10 : decode cX4_append 10 = .ok (.iload_n 2, 1) := by decide +kernel
theorem dX4_append_11 : decode cX4_append 11 = .ok (.bipush 8, 2) := by decide +kernel
theorem dX4_append_13 : decode cX4_append 13 = .ok (.if_icmp .ne 5, 3) := by decide +kernel
theorem dX4_append_16 : decode cX4_append 16 = .ok (.iconst 0, 1) := by decide +kernel
theorem dX4_append_17 : decode cX4_append 17 = .ok (.ireturn, 1) := by decide +kernel
theorem dX4_append_18 : decode cX4_append 18 = .ok (.aload_n 0, 1) := by decide +kernel
theorem dX4_append_19 : decode cX4_append 19 = .ok (.getfield 11, 3) := by decide +kernel
theorem dX4_append_22 : decode cX4_append 22 = .ok (.aload_n 0, 1) := by decide +kernel
theorem dX4_append_23 : decode cX4_append 23 = .ok (.getfield 20, 3) := by decide +kernel
theorem dX4_append_26 : decode cX4_append 26 = .ok (.aaload, 1) := by decide +kernel
theorem dX4_append_27 : decode cX4_append 27 = .ok (.iload_n 2, 1) := by decide +kernel
theorem dX4_append_28 : decode cX4_append 28 = .ok (.iload_n 1, 1) := by decide +kernel
theorem dX4_append_29 : decode cX4_append 29 = .ok (.iastore, 1) := by decide +kernel
theorem dX4_append_30 : decode cX4_append 30 = .ok (.aload_n 0, 1) := by decide +kernel
theorem dX4_append_31 : decode cX4_append 31 = .ok (.getfield 16, 3) := by decide +kernel
theorem dX4_append_34 : decode cX4_append 34 = .ok (.aload_n 0, 1) := by decide +kernel
theorem dX4_append_35 : decode cX4_append 35 = .ok (.getfield 20, 3) := by decide +kernel
theorem dX4_append_38 : decode cX4_append 38 = .ok (.iload_n 2, 1) := by decide +kernel
theorem dX4_append_39 : decode cX4_append 39 = .ok (.iconst 1, 1) := by decide +kernel
theorem dX4_append_40 : decode cX4_append 40 = .ok (.iadd, 1) := by decide +kernel
theorem dX4_append_41 : decode cX4_append 41 = .ok (.iastore, 1) := by decide +kernel
theorem dX4_append_42 : decode cX4_append 42 = .ok (.iconst 1, 1) := by decide +kernel
theorem dX4_append_43 : decode cX4_append 43 = .ok (.ireturn, 1) := by decide +kernel
theorem dX4_openLength_0 : decode cX4_openLength 0 = .ok (.aload_n 0, 1) := by decide +kernel
theorem dX4_openLength_1 : decode cX4_openLength 1 = .ok (.getfield 16, 3) := by decide +kernel
theorem dX4_openLength_4 : decode cX4_openLength 4 = .ok (.aload_n 0, 1) := by decide +kernel
theorem dX4_openLength_5 : decode cX4_openLength 5 = .ok (.getfield 20, 3) := by decide +kernel
theorem dX4_openLength_8 : decode cX4_openLength 8 = .ok (.iaload, 1) := by decide +kernel
theorem dX4_openLength_9 : decode cX4_openLength 9 = .ok (.ireturn, 1) := by decide +kernel
theorem dX4_symbolAt_0 : decode cX4_symbolAt 0 = .ok (.iload_n 1, 1) := by decide +kernel
theorem dX4_symbolAt_1 : decode cX4_symbolAt 1 = .ok (.ifCond .ge 6, 3) := by decide +kernel
theorem dX4_symbolAt_4 : decode cX4_symbolAt 4 = .ok (.bipush 6, 2) := by decide +kernel
theorem dX4_symbolAt_6 : decode cX4_symbolAt 6 = .ok (.ireturn, 1) := by decide +kernel
theorem dX4_symbolAt_7 : decode cX4_symbolAt 7 = .ok (.iload_n 1, 1) := by decide +kernel
theorem dX4_symbolAt_8 : decode cX4_symbolAt 8 = .ok (.aload_n 0, 1) := by decide +kernel
theorem dX4_symbolAt_9 : decode cX4_symbolAt 9 = .ok (.getfield 16, 3) := by decide +kernel
theorem dX4_symbolAt_12 : decode cX4_symbolAt 12 = .ok (.aload_n 0, 1) := by decide +kernel
theorem dX4_symbolAt_13 : decode cX4_symbolAt 13 = .ok (.getfield 20, 3) := by decide +kernel
theorem dX4_symbolAt_16 : decode cX4_symbolAt 16 = .ok (.iaload, 1) := by decide +kernel
theorem dX4_symbolAt_17 : decode cX4_symbolAt 17 = .ok (.if_icmp .ge 17, 3) := by decide +kernel
theorem dX4_symbolAt_20 : decode cX4_symbolAt 20 = .ok (.aload_n 0, 1) := by decide +kernel
theorem dX4_symbolAt_21 : decode cX4_symbolAt 21 = .ok (.getfield 11, 3) := by decide +kernel
theorem dX4_symbolAt_24 : decode cX4_symbolAt 24 = .ok (.aload_n 0, 1) := by decide +kernel
theorem dX4_symbolAt_25 : decode cX4_symbolAt 25 = .ok (.getfield 20, 3) := by decide +kernel
theorem dX4_symbolAt_28 : decode cX4_symbolAt 28 = .ok (.aaload, 1) := by decide +kernel
theorem dX4_symbolAt_29 : decode cX4_symbolAt 29 = .ok (.iload_n 1, 1) := by decide +kernel
theorem dX4_symbolAt_30 : decode cX4_symbolAt 30 = .ok (.iaload, 1) := by decide +kernel
theorem dX4_symbolAt_31 : decode cX4_symbolAt 31 = .ok (.goto 4, 3) := by decide +kernel
theorem dX4_symbolAt_34 : decode cX4_symbolAt 34 = .ok (.iconst 5, 1) := by decide +kernel
theorem dX4_symbolAt_35 : decode cX4_symbolAt 35 = .ok (.ireturn, 1) := by decide +kernel
theorem dX4_close_0 : decode cX4_close 0 = .ok (.aload_n 0, 1) := by decide +kernel
theorem dX4_close_1 : decode cX4_close 1 = .ok (.getfield 20, 3) := by decide +kernel
theorem dX4_close_4 : decode cX4_close 4 = .ok (.bipush 8, 2) := by decide +kernel
theorem dX4_close_6 : decode cX4_close 6 = .ok (.if_icmp .ge 23, 3) := by decide +kernel
theorem dX4_close_9 : decode cX4_close 9 = .ok (.aload_n 0, 1) := by decide +kernel
theorem dX4_close_10 : decode cX4_close 10 = .ok (.dup, 1) := by decide +kernel
theorem dX4_close_11 : decode cX4_close 11 = .ok (.getfield 20, 3) := by decide +kernel
theorem dX4_close_14 : decode cX4_close 14 = .ok (.iconst 1, 1) := by decide +kernel
theorem dX4_close_15 : decode cX4_close 15 = .ok (.iadd, 1) := by decide +kernel
theorem dX4_close_16 : decode cX4_close 16 = .ok (.putfield 20, 3) := by decide +kernel
theorem dX4_close_19 : decode cX4_close 19 = .ok (.aload_n 0, 1) := by decide +kernel
theorem dX4_close_20 : decode cX4_close 20 = .ok (.getfield 16, 3) := by decide +kernel
theorem dX4_close_23 : decode cX4_close 23 = .ok (.aload_n 0, 1) := by decide +kernel
theorem dX4_close_24 : decode cX4_close 24 = .ok (.getfield 20, 3) := by decide +kernel
theorem dX4_close_27 : decode cX4_close 27 = .ok (.iconst 0, 1) := by decide +kernel
theorem dX4_close_28 : decode cX4_close 28 = .ok (.iastore, 1) := by decide +kernel
theorem dX4_close_29 : decode cX4_close 29 = .ok (.return_, 1) := by decide +kernel
theorem dX4_clearOpen_0 : decode cX4_clearOpen 0 = .ok (.aload_n 0, 1) := by decide +kernel
theorem dX4_clearOpen_1 : decode cX4_clearOpen 1 = .ok (.getfield 16, 3) := by decide +kernel
theorem dX4_clearOpen_4 : decode cX4_clearOpen 4 = .ok (.aload_n 0, 1) := by decide +kernel
theorem dX4_clearOpen_5 : decode cX4_clearOpen 5 = .ok (.getfield 20, 3) := by decide +kernel
theorem dX4_clearOpen_8 : decode cX4_clearOpen 8 = .ok (.iconst 0, 1) := by decide +kernel
theorem dX4_clearOpen_9 : decode cX4_clearOpen 9 = .ok (.iastore, 1) := by decide +kernel
theorem dX4_clearOpen_10 : decode cX4_clearOpen 10 = .ok (.return_, 1) := by decide +kernel
theorem dX4_reopen_0 : decode cX4_reopen 0 = .ok (.aload_n 0, 1) := by decide +kernel
theorem dX4_reopen_1 : decode cX4_reopen 1 = .ok (.getfield 20, 3) := by decide +kernel
theorem dX4_reopen_4 : decode cX4_reopen 4 = .ok (.ifCond .le 13, 3) := by decide +kernel
theorem dX4_reopen_7 : decode cX4_reopen 7 = .ok (.aload_n 0, 1) := by decide +kernel
theorem dX4_reopen_8 : decode cX4_reopen 8 = .ok (.dup, 1) := by decide +kernel
theorem dX4_reopen_9 : decode cX4_reopen 9 = .ok (.getfield 20, 3) := by decide +kernel
theorem dX4_reopen_12 : decode cX4_reopen 12 = .ok (.iconst 1, 1) := by decide +kernel
theorem dX4_reopen_13 : decode cX4_reopen 13 = .ok (.isub, 1) := by decide +kernel
theorem dX4_reopen_14 : decode cX4_reopen 14 = .ok (.putfield 20, 3) := by decide +kernel
theorem dX4_reopen_17 : decode cX4_reopen 17 = .ok (.return_, 1) := by decide +kernel
theorem dJ6_compareUnsigned_0 : decode cJ6_compareUnsigned 0 = .ok (.iload_n 0, 1) := by decide +kernel
theorem dJ6_compareUnsigned_1 : decode cJ6_compareUnsigned 1 = .ok (.ldc 127, 2) := by decide +kernel
theorem dJ6_compareUnsigned_3 : decode cJ6_compareUnsigned 3 = .ok (.iadd, 1) := by decide +kernel
theorem dJ6_compareUnsigned_4 : decode cJ6_compareUnsigned 4 = .ok (.iload_n 1, 1) := by decide +kernel
theorem dJ6_compareUnsigned_5 : decode cJ6_compareUnsigned 5 = .ok (.ldc 127, 2) := by decide +kernel
theorem dJ6_compareUnsigned_7 : decode cJ6_compareUnsigned 7 = .ok (.iadd, 1) := by decide +kernel
theorem dJ6_compareUnsigned_8 : decode cJ6_compareUnsigned 8 = .ok (.invokestatic 259, 3) := by decide +kernel
theorem dJ6_compareUnsigned_11 : decode cJ6_compareUnsigned 11 = .ok (.ireturn, 1) := by decide +kernel
theorem dJ6_compare_0 : decode cJ6_compare 0 = .ok (.iload_n 0, 1) := by decide +kernel
theorem dJ6_compare_1 : decode cJ6_compare 1 = .ok (.iload_n 1, 1) := by decide +kernel
theorem dJ6_compare_2 : decode cJ6_compare 2 = .ok (.if_icmp .ge 7, 3) := by decide +kernel
theorem dJ6_compare_5 : decode cJ6_compare 5 = .ok (.iconst (-1), 1) := by decide +kernel
theorem dJ6_compare_6 : decode cJ6_compare 6 = .ok (.goto 13, 3) := by decide +kernel
theorem dJ6_compare_9 : decode cJ6_compare 9 = .ok (.iload_n 0, 1) := by decide +kernel
theorem dJ6_compare_10 : decode cJ6_compare 10 = .ok (.iload_n 1, 1) := by decide +kernel
theorem dJ6_compare_11 : decode cJ6_compare 11 = .ok (.if_icmp .ne 7, 3) := by decide +kernel
theorem dJ6_compare_14 : decode cJ6_compare 14 = .ok (.iconst 0, 1) := by decide +kernel
theorem dJ6_compare_15 : decode cJ6_compare 15 = .ok (.goto 4, 3) := by decide +kernel
theorem dJ6_compare_18 : decode cJ6_compare 18 = .ok (.iconst 1, 1) := by decide +kernel
theorem dJ6_compare_19 : decode cJ6_compare 19 = .ok (.ireturn, 1) := by decide +kernel
