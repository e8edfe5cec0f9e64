theorem d_M_thrown_0 : decode b_M_thrown 0 = .ok (.aload_n 0, 1) := by decide +kernel
theorem d_M_thrown_1 : decode b_M_thrown 1 = .ok (.getfield 44, 3) := by decide +kernel
theorem d_M_thrown_4 : decode b_M_thrown 4 = .ok (.ireturn, 1) := by decide +kernel
theorem d_M_fails_0 : decode b_M_fails 0 = .ok (.iload_n 1, 1) := by decide +kernel
theorem d_M_fails_1 : decode b_M_fails 1 = .ok (.ifCond .eq 15, 3) := by decide +kernel
theorem d_M_fails_4 : decode b_M_fails 4 = .ok (.aload_n 0, 1) := by decide +kernel
theorem d_M_fails_5 : decode b_M_fails 5 = .ok (.getfield 44, 3) := by decide +kernel
theorem d_M_fails_8 : decode b_M_fails 8 = .ok (.ifCond .ne 8, 3) := by decide +kernel
theorem d_M_fails_11 : decode b_M_fails 11 = .ok (.aload_n 0, 1) := by decide +kernel
theorem d_M_fails_12 : decode b_M_fails 12 = .ok (.iload_n 2, 1) := by decide +kernel
theorem d_M_fails_13 : decode b_M_fails 13 = .ok (.putfield 44, 3) := by decide +kernel
theorem d_M_fails_16 : decode b_M_fails 16 = .ok (.aload_n 0, 1) := by decide +kernel
theorem d_M_fails_17 : decode b_M_fails 17 = .ok (.getfield 44, 3) := by decide +kernel
theorem d_M_fails_20 : decode b_M_fails 20 = .ok (.ifCond .eq 7, 3) := by decide +kernel
theorem d_M_fails_23 : decode b_M_fails 23 = .ok (.iconst 1, 1) := by decide +kernel
theorem d_M_fails_24 : decode b_M_fails 24 = .ok (.goto 4, 3) := by decide +kernel
theorem d_M_fails_27 : decode b_M_fails 27 = .ok (.iconst 0, 1) := by decide +kernel
theorem d_M_fails_28 : decode b_M_fails 28 = .ok (.ireturn, 1) := by decide +kernel
theorem d_M_one_0 : decode b_M_one 0 = .ok (.aload_n 0, 1) := by decide +kernel
theorem d_M_one_1 : decode b_M_one 1 = .ok (.getfield 8, 3) := by decide +kernel
theorem d_M_one_4 : decode b_M_one 4 = .ok (.iload_n 1, 1) := by decide +kernel
theorem d_M_one_5 : decode b_M_one 5 = .ok (.baload, 1) := by decide +kernel
theorem d_M_one_6 : decode b_M_one 6 = .ok (.sipush 255, 3) := by decide +kernel
theorem d_M_one_9 : decode b_M_one 9 = .ok (.iand, 1) := by decide +kernel
theorem d_M_one_10 : decode b_M_one 10 = .ok (.ireturn, 1) := by decide +kernel
theorem d_M_two_0 : decode b_M_two 0 = .ok (.aload_n 0, 1) := by decide +kernel
theorem d_M_two_1 : decode b_M_two 1 = .ok (.iload_n 1, 1) := by decide +kernel
theorem d_M_two_2 : decode b_M_two 2 = .ok (.invokevirtual 47, 3) := by decide +kernel
theorem d_M_two_5 : decode b_M_two 5 = .ok (.sipush 256, 3) := by decide +kernel
theorem d_M_two_8 : decode b_M_two 8 = .ok (.aload_n 0, 1) := by decide +kernel
theorem d_M_two_9 : decode b_M_two 9 = .ok (.iload_n 1, 1) := by decide +kernel
theorem d_M_two_10 : decode b_M_two 10 = .ok (.iconst 1, 1) := by decide +kernel
theorem d_M_two_11 : decode b_M_two 11 = .ok (.iadd, 1) := by decide +kernel
theorem d_M_two_12 : decode b_M_two 12 = .ok (.invokevirtual 47, 3) := by decide +kernel
theorem d_M_two_15 : decode b_M_two 15 = .ok (.imul, 1) := by decide +kernel
theorem d_M_two_16 : decode b_M_two 16 = .ok (.iadd, 1) := by decide +kernel
theorem d_M_two_17 : decode b_M_two 17 = .ok (.ireturn, 1) := by decide +kernel
theorem d_M_four_0 : decode b_M_four 0 = .ok (.aload_n 0, 1) := by decide +kernel
theorem d_M_four_1 : decode b_M_four 1 = .ok (.iload_n 1, 1) := by decide +kernel
theorem d_M_four_2 : decode b_M_four 2 = .ok (.invokevirtual 51, 3) := by decide +kernel
theorem d_M_four_5 : decode b_M_four 5 = .ok (.i2l, 1) := by decide +kernel
theorem d_M_four_6 : decode b_M_four 6 = .ok (.ldc2_w 54, 3) := by decide +kernel
theorem d_M_four_9 : decode b_M_four 9 = .ok (.aload_n 0, 1) := by decide +kernel
theorem d_M_four_10 : decode b_M_four 10 = .ok (.iload_n 1, 1) := by decide +kernel
theorem d_M_four_11 : decode b_M_four 11 = .ok (.iconst 2, 1) := by decide +kernel
theorem d_M_four_12 : decode b_M_four 12 = .ok (.iadd, 1) := by decide +kernel
theorem d_M_four_13 : decode b_M_four 13 = .ok (.invokevirtual 51, 3) := by decide +kernel
theorem d_M_four_16 : decode b_M_four 16 = .ok (.i2l, 1) := by decide +kernel
theorem d_M_four_17 : decode b_M_four 17 = .ok (.lmul, 1) := by decide +kernel
theorem d_M_four_18 : decode b_M_four 18 = .ok (.ladd, 1) := by decide +kernel
theorem d_M_four_19 : decode b_M_four 19 = .ok (.lreturn, 1) := by decide +kernel
theorem d_M_isThere_0 : decode b_M_isThere 0 = .ok (.lload_n 3, 1) := by decide +kernel
theorem d_M_isThere_1 : decode b_M_isThere 1 = .ok (.lconst 0, 1) := by decide +kernel
theorem d_M_isThere_2 : decode b_M_isThere 2 = .ok (.lcmp, 1) := by decide +kernel
theorem d_M_isThere_3 : decode b_M_isThere 3 = .ok (.ifCond .lt 35, 3) := by decide +kernel
theorem d_M_isThere_6 : decode b_M_isThere 6 = .ok (.lload_n 3, 1) := by decide +kernel
theorem d_M_isThere_7 : decode b_M_isThere 7 = .ok (.lconst 0, 1) := by decide +kernel
theorem d_M_isThere_8 : decode b_M_isThere 8 = .ok (.lcmp, 1) := by decide +kernel
theorem d_M_isThere_9 : decode b_M_isThere 9 = .ok (.ifCond .eq 25, 3) := by decide +kernel
theorem d_M_isThere_12 : decode b_M_isThere 12 = .ok (.lload_n 1, 1) := by decide +kernel
theorem d_M_isThere_13 : decode b_M_isThere 13 = .ok (.lconst 0, 1) := by decide +kernel
theorem d_M_isThere_14 : decode b_M_isThere 14 = .ok (.lcmp, 1) := by decide +kernel
theorem d_M_isThere_15 : decode b_M_isThere 15 = .ok (.ifCond .lt 23, 3) := by decide +kernel
theorem d_M_isThere_18 : decode b_M_isThere 18 = .ok (.lload_n 1, 1) := by decide +kernel
theorem d_M_isThere_19 : decode b_M_isThere 19 = .ok (.lload_n 3, 1) := by decide +kernel
theorem d_M_isThere_20 : decode b_M_isThere 20 = .ok (.ladd, 1) := by decide +kernel
theorem d_M_isThere_21 : decode b_M_isThere 21 = .ok (.ldc2_w 56, 3) := by decide +kernel
theorem d_M_isThere_24 : decode b_M_isThere 24 = .ok (.aload_n 0, 1) := by decide +kernel
theorem d_M_isThere_25 : decode b_M_isThere 25 = .ok (.getfield 41, 3) := by decide +kernel
theorem d_M_isThere_28 : decode b_M_isThere 28 = .ok (.i2l, 1) := by decide +kernel
theorem d_M_isThere_29 : decode b_M_isThere 29 = .ok (.lmul, 1) := by decide +kernel
theorem d_M_isThere_30 : decode b_M_isThere 30 = .ok (.lcmp, 1) := by decide +kernel
theorem d_M_isThere_31 : decode b_M_isThere 31 = .ok (.ifCond .gt 7, 3) := by decide +kernel
theorem d_M_isThere_34 : decode b_M_isThere 34 = .ok (.iconst 1, 1) := by decide +kernel
theorem d_M_isThere_35 : decode b_M_isThere 35 = .ok (.goto 4, 3) := by decide +kernel
theorem d_M_isThere_38 : decode b_M_isThere 38 = .ok (.iconst 0, 1) := by decide +kernel
theorem d_M_isThere_39 : decode b_M_isThere 39 = .ok (.ireturn, 1) := by decide +kernel
theorem d_M_changed_0 : decode b_M_changed 0 = .ok (.aload_n 0, 1) := by decide +kernel
theorem d_M_changed_1 : decode b_M_changed 1 = .ok (.iconst 0, 1) := by decide +kernel
theorem d_M_changed_2 : decode b_M_changed 2 = .ok (.putfield 58, 3) := by decide +kernel
theorem d_M_changed_5 : decode b_M_changed 5 = .ok (.aload_n 0, 1) := by decide +kernel
theorem d_M_changed_6 : decode b_M_changed 6 = .ok (.iconst 2, 1) := by decide +kernel
theorem d_M_changed_7 : decode b_M_changed 7 = .ok (.putfield 37, 3) := by decide +kernel
theorem d_M_changed_10 : decode b_M_changed 10 = .ok (.iconst 1, 1) := by decide +kernel
theorem d_M_changed_11 : decode b_M_changed 11 = .ok (.ireturn, 1) := by decide +kernel
theorem d_M_put_0 : decode b_M_put 0 = .ok (.aload_n 0, 1) := by decide +kernel
theorem d_M_put_1 : decode b_M_put 1 = .ok (.iconst 0, 1) := by decide +kernel
theorem d_M_put_2 : decode b_M_put 2 = .ok (.putfield 44, 3) := by decide +kernel
theorem d_M_put_5 : decode b_M_put 5 = .ok (.iload_n 2, 1) := by decide +kernel
theorem d_M_put_6 : decode b_M_put 6 = .ok (.iconst 1, 1) := by decide +kernel
theorem d_M_put_7 : decode b_M_put 7 = .ok (.if_icmp .lt 20, 3) := by decide +kernel
theorem d_M_put_10 : decode b_M_put 10 = .ok (.iload_n 2, 1) := by decide +kernel
theorem d_M_put_11 : decode b_M_put 11 = .ok (.bipush 8, 2) := by decide +kernel
theorem d_M_put_13 : decode b_M_put 13 = .ok (.if_icmp .gt 14, 3) := by decide +kernel
theorem d_M_put_16 : decode b_M_put 16 = .ok (.aload_n 0, 1) := by decide +kernel
theorem d_M_put_17 : decode b_M_put 17 = .ok (.iload_n 1, 1) := by decide +kernel
theorem d_M_put_18 : decode b_M_put 18 = .ok (.i2l, 1) := by decide +kernel
theorem d_M_put_19 : decode b_M_put 19 = .ok (.iload_n 2, 1) := by decide +kernel
theorem d_M_put_20 : decode b_M_put 20 = .ok (.i2l, 1) := by decide +kernel
theorem d_M_put_21 : decode b_M_put 21 = .ok (.invokevirtual 62, 3) := by decide +kernel
theorem d_M_put_24 : decode b_M_put 24 = .ok (.ifCond .ne 5, 3) := by decide +kernel
theorem d_M_put_27 : decode b_M_put 27 = .ok (.iconst 0, 1) := by decide +kernel
theorem d_M_put_28 : decode b_M_put 28 = .ok (.ireturn, 1) := by decide +kernel
theorem d_M_put_29 : decode b_M_put 29 = .ok (.iconst 0, 1) := by decide +kernel
theorem d_M_put_30 : decode b_M_put 30 = .ok (.istore 5, 2) := by decide +kernel
theorem d_M_put_32 : decode b_M_put 32 = .ok (.iload 5, 2) := by decide +kernel
theorem d_M_put_34 : decode b_M_put 34 = .ok (.iload_n 2, 1) := by decide +kernel
theorem d_M_put_35 : decode b_M_put 35 = .ok (.if_icmp .ge 27, 3) := by decide +kernel
theorem d_M_put_38 : decode b_M_put 38 = .ok (.aload_n 0, 1) := by decide +kernel
theorem d_M_put_39 : decode b_M_put 39 = .ok (.getfield 8, 3) := by decide +kernel
theorem d_M_put_42 : decode b_M_put 42 = .ok (.iload_n 1, 1) := by decide +kernel
theorem d_M_put_43 : decode b_M_put 43 = .ok (.iload 5, 2) := by decide +kernel
theorem d_M_put_45 : decode b_M_put 45 = .ok (.iadd, 1) := by decide +kernel
theorem d_M_put_46 : decode b_M_put 46 = .ok (.lload_n 3, 1) := by decide +kernel
theorem d_M_put_47 : decode b_M_put 47 = .ok (.bipush 8, 2) := by decide +kernel
theorem d_M_put_49 : decode b_M_put 49 = .ok (.iload 5, 2) := by decide +kernel
theorem d_M_put_51 : decode b_M_put 51 = .ok (.imul, 1) := by decide +kernel
theorem d_M_put_52 : decode b_M_put 52 = .ok (.lshr, 1) := by decide +kernel
theorem d_M_put_53 : decode b_M_put 53 = .ok (.l2i, 1) := by decide +kernel
theorem d_M_put_54 : decode b_M_put 54 = .ok (.i2b, 1) := by decide +kernel
theorem d_M_put_55 : decode b_M_put 55 = .ok (.bastore, 1) := by decide +kernel
theorem d_M_put_56 : decode b_M_put 56 = .ok (.iinc 5 1, 3) := by decide +kernel
theorem d_M_put_59 : decode b_M_put 59 = .ok (.goto (-27), 3) := by decide +kernel
theorem d_M_put_62 : decode b_M_put 62 = .ok (.aload_n 0, 1) := by decide +kernel
theorem d_M_put_63 : decode b_M_put 63 = .ok (.invokevirtual 66, 3) := by decide +kernel
theorem d_M_put_66 : decode b_M_put 66 = .ok (.ireturn, 1) := by decide +kernel
theorem d_M_fill_0 : decode b_M_fill 0 = .ok (.aload_n 0, 1) := by decide +kernel
theorem d_M_fill_1 : decode b_M_fill 1 = .ok (.iconst 0, 1) := by decide +kernel
theorem d_M_fill_2 : decode b_M_fill 2 = .ok (.putfield 44, 3) := by decide +kernel
theorem d_M_fill_5 : decode b_M_fill 5 = .ok (.aload_n 0, 1) := by decide +kernel
theorem d_M_fill_6 : decode b_M_fill 6 = .ok (.iload_n 1, 1) := by decide +kernel
theorem d_M_fill_7 : decode b_M_fill 7 = .ok (.i2l, 1) := by decide +kernel
theorem d_M_fill_8 : decode b_M_fill 8 = .ok (.iload_n 2, 1) := by decide +kernel
theorem d_M_fill_9 : decode b_M_fill 9 = .ok (.i2l, 1) := by decide +kernel
theorem d_M_fill_10 : decode b_M_fill 10 = .ok (.invokevirtual 62, 3) := by decide +kernel
theorem d_M_fill_13 : decode b_M_fill 13 = .ok (.ifCond .ne 5, 3) := by decide +kernel
theorem d_M_fill_16 : decode b_M_fill 16 = .ok (.iconst 0, 1) := by decide +kernel
theorem d_M_fill_17 : decode b_M_fill 17 = .ok (.ireturn, 1) := by decide +kernel
theorem d_M_fill_18 : decode b_M_fill 18 = .ok (.iconst 0, 1) := by decide +kernel
theorem d_M_fill_19 : decode b_M_fill 19 = .ok (.istore 4, 2) := by decide +kernel
theorem d_M_fill_21 : decode b_M_fill 21 = .ok (.iload 4, 2) := by decide +kernel
theorem d_M_fill_23 : decode b_M_fill 23 = .ok (.iload_n 2, 1) := by decide +kernel
theorem d_M_fill_24 : decode b_M_fill 24 = .ok (.if_icmp .ge 20, 3) := by decide +kernel
theorem d_M_fill_27 : decode b_M_fill 27 = .ok (.aload_n 0, 1) := by decide +kernel
theorem d_M_fill_28 : decode b_M_fill 28 = .ok (.getfield 8, 3) := by decide +kernel
theorem d_M_fill_31 : decode b_M_fill 31 = .ok (.iload_n 1, 1) := by decide +kernel
theorem d_M_fill_32 : decode b_M_fill 32 = .ok (.iload 4, 2) := by decide +kernel
theorem d_M_fill_34 : decode b_M_fill 34 = .ok (.iadd, 1) := by decide +kernel
theorem d_M_fill_35 : decode b_M_fill 35 = .ok (.iload_n 3, 1) := by decide +kernel
theorem d_M_fill_36 : decode b_M_fill 36 = .ok (.i2b, 1) := by decide +kernel
theorem d_M_fill_37 : decode b_M_fill 37 = .ok (.bastore, 1) := by decide +kernel
theorem d_M_fill_38 : decode b_M_fill 38 = .ok (.iinc 4 1, 3) := by decide +kernel
theorem d_M_fill_41 : decode b_M_fill 41 = .ok (.goto (-20), 3) := by decide +kernel
theorem d_M_fill_44 : decode b_M_fill 44 = .ok (.aload_n 0, 1) := by decide +kernel
theorem d_M_fill_45 : decode b_M_fill 45 = .ok (.invokevirtual 66, 3) := by decide +kernel
theorem d_M_fill_48 : decode b_M_fill 48 = .ok (.ireturn, 1) := by decide +kernel
theorem d_M_copy_0 : decode b_M_copy 0 = .ok (.aload_n 0, 1) := by decide +kernel
theorem d_M_copy_1 : decode b_M_copy 1 = .ok (.iconst 0, 1) := by decide +kernel
theorem d_M_copy_2 : decode b_M_copy 2 = .ok (.putfield 44, 3) := by decide +kernel
theorem d_M_copy_5 : decode b_M_copy 5 = .ok (.aload_n 0, 1) := by decide +kernel
theorem d_M_copy_6 : decode b_M_copy 6 = .ok (.iload_n 1, 1) := by decide +kernel
theorem d_M_copy_7 : decode b_M_copy 7 = .ok (.i2l, 1) := by decide +kernel
theorem d_M_copy_8 : decode b_M_copy 8 = .ok (.iload_n 3, 1) := by decide +kernel
theorem d_M_copy_9 : decode b_M_copy 9 = .ok (.i2l, 1) := by decide +kernel
theorem d_M_copy_10 : decode b_M_copy 10 = .ok (.invokevirtual 62, 3) := by decide +kernel
theorem d_M_copy_13 : decode b_M_copy 13 = .ok (.ifCond .eq 14, 3) := by decide +kernel
theorem d_M_copy_16 : decode b_M_copy 16 = .ok (.aload_n 0, 1) := by decide +kernel
theorem d_M_copy_17 : decode b_M_copy 17 = .ok (.iload_n 2, 1) := by decide +kernel
theorem d_M_copy_18 : decode b_M_copy 18 = .ok (.i2l, 1) := by decide +kernel
theorem d_M_copy_19 : decode b_M_copy 19 = .ok (.iload_n 3, 1) := by decide +kernel
theorem d_M_copy_20 : decode b_M_copy 20 = .ok (.i2l, 1) := by decide +kernel
theorem d_M_copy_21 : decode b_M_copy 21 = .ok (.invokevirtual 62, 3) := by decide +kernel
theorem d_M_copy_24 : decode b_M_copy 24 = .ok (.ifCond .ne 5, 3) := by decide +kernel
theorem d_M_copy_27 : decode b_M_copy 27 = .ok (.iconst 0, 1) := by decide +kernel
theorem d_M_copy_28 : decode b_M_copy 28 = .ok (.ireturn, 1) := by decide +kernel
theorem d_M_copy_29 : decode b_M_copy 29 = .ok (.iconst 0, 1) := by decide +kernel
theorem d_M_copy_30 : decode b_M_copy 30 = .ok (.istore 4, 2) := by decide +kernel
theorem d_M_copy_32 : decode b_M_copy 32 = .ok (.iload 4, 2) := by decide +kernel
theorem d_M_copy_34 : decode b_M_copy 34 = .ok (.iload_n 3, 1) := by decide +kernel
theorem d_M_copy_35 : decode b_M_copy 35 = .ok (.if_icmp .ge 45, 3) := by decide +kernel
theorem d_M_copy_38 : decode b_M_copy 38 = .ok (.iload_n 1, 1) := by decide +kernel
theorem d_M_copy_39 : decode b_M_copy 39 = .ok (.iload_n 2, 1) := by decide +kernel
theorem d_M_copy_40 : decode b_M_copy 40 = .ok (.if_icmp .ge 12, 3) := by decide +kernel
theorem d_M_copy_43 : decode b_M_copy 43 = .ok (.iload_n 3, 1) := by decide +kernel
theorem d_M_copy_44 : decode b_M_copy 44 = .ok (.iconst 1, 1) := by decide +kernel
theorem d_M_copy_45 : decode b_M_copy 45 = .ok (.isub, 1) := by decide +kernel
theorem d_M_copy_46 : decode b_M_copy 46 = .ok (.iload 4, 2) := by decide +kernel
theorem d_M_copy_48 : decode b_M_copy 48 = .ok (.isub, 1) := by decide +kernel
theorem d_M_copy_49 : decode b_M_copy 49 = .ok (.goto 5, 3) := by decide +kernel
theorem d_M_copy_52 : decode b_M_copy 52 = .ok (.iload 4, 2) := by decide +kernel
theorem d_M_copy_54 : decode b_M_copy 54 = .ok (.istore 5, 2) := by decide +kernel
theorem d_M_copy_56 : decode b_M_copy 56 = .ok (.aload_n 0, 1) := by decide +kernel
theorem d_M_copy_57 : decode b_M_copy 57 = .ok (.getfield 8, 3) := by decide +kernel
theorem d_M_copy_60 : decode b_M_copy 60 = .ok (.iload_n 2, 1) := by decide +kernel
theorem d_M_copy_61 : decode b_M_copy 61 = .ok (.iload 5, 2) := by decide +kernel
theorem d_M_copy_63 : decode b_M_copy 63 = .ok (.iadd, 1) := by decide +kernel
theorem d_M_copy_64 : decode b_M_copy 64 = .ok (.aload_n 0, 1) := by decide +kernel
theorem d_M_copy_65 : decode b_M_copy 65 = .ok (.getfield 8, 3) := by decide +kernel
theorem d_M_copy_68 : decode b_M_copy 68 = .ok (.iload_n 1, 1) := by decide +kernel
theorem d_M_copy_69 : decode b_M_copy 69 = .ok (.iload 5, 2) := by decide +kernel
theorem d_M_copy_71 : decode b_M_copy 71 = .ok (.iadd, 1) := by decide +kernel
theorem d_M_copy_72 : decode b_M_copy 72 = .ok (.baload, 1) := by decide +kernel
theorem d_M_copy_73 : decode b_M_copy 73 = .ok (.bastore, 1) := by decide +kernel
theorem d_M_copy_74 : decode b_M_copy 74 = .ok (.iinc 4 1, 3) := by decide +kernel
theorem d_M_copy_77 : decode b_M_copy 77 = .ok (.goto (-45), 3) := by decide +kernel
theorem d_M_copy_80 : decode b_M_copy 80 = .ok (.aload_n 0, 1) := by decide +kernel
theorem d_M_copy_81 : decode b_M_copy 81 = .ok (.invokevirtual 66, 3) := by decide +kernel
theorem d_M_copy_84 : decode b_M_copy 84 = .ok (.ireturn, 1) := by decide +kernel
theorem d_M_byteAt_0 : decode b_M_byteAt 0 = .ok (.aload_n 0, 1) := by decide +kernel
theorem d_M_byteAt_1 : decode b_M_byteAt 1 = .ok (.iconst 0, 1) := by decide +kernel
theorem d_M_byteAt_2 : decode b_M_byteAt 2 = .ok (.putfield 44, 3) := by decide +kernel
theorem d_M_byteAt_5 : decode b_M_byteAt 5 = .ok (.iload_n 1, 1) := by decide +kernel
theorem d_M_byteAt_6 : decode b_M_byteAt 6 = .ok (.ifCond .lt 15, 3) := by decide +kernel
theorem d_M_byteAt_9 : decode b_M_byteAt 9 = .ok (.iload_n 1, 1) := by decide +kernel
theorem d_M_byteAt_10 : decode b_M_byteAt 10 = .ok (.sipush 1024, 3) := by decide +kernel
theorem d_M_byteAt_13 : decode b_M_byteAt 13 = .ok (.aload_n 0, 1) := by decide +kernel
theorem d_M_byteAt_14 : decode b_M_byteAt 14 = .ok (.getfield 41, 3) := by decide +kernel
theorem d_M_byteAt_17 : decode b_M_byteAt 17 = .ok (.imul, 1) := by decide +kernel
theorem d_M_byteAt_18 : decode b_M_byteAt 18 = .ok (.if_icmp .lt 7, 3) := by decide +kernel
theorem d_M_byteAt_21 : decode b_M_byteAt 21 = .ok (.iconst (-1), 1) := by decide +kernel
theorem d_M_byteAt_22 : decode b_M_byteAt 22 = .ok (.goto 8, 3) := by decide +kernel
theorem d_M_byteAt_25 : decode b_M_byteAt 25 = .ok (.aload_n 0, 1) := by decide +kernel
theorem d_M_byteAt_26 : decode b_M_byteAt 26 = .ok (.iload_n 1, 1) := by decide +kernel
theorem d_M_byteAt_27 : decode b_M_byteAt 27 = .ok (.invokevirtual 47, 3) := by decide +kernel
theorem d_M_byteAt_30 : decode b_M_byteAt 30 = .ok (.ireturn, 1) := by decide +kernel
theorem d_M_begin_0 : decode b_M_begin 0 = .ok (.iconst 1, 1) := by decide +kernel
theorem d_M_begin_1 : decode b_M_begin 1 = .ok (.iload_n 1, 1) := by decide +kernel
theorem d_M_begin_2 : decode b_M_begin 2 = .ok (.aload_n 0, 1) := by decide +kernel
theorem d_M_begin_3 : decode b_M_begin 3 = .ok (.getfield 70, 3) := by decide +kernel
theorem d_M_begin_6 : decode b_M_begin 6 = .ok (.imul, 1) := by decide +kernel
theorem d_M_begin_7 : decode b_M_begin 7 = .ok (.iadd, 1) := by decide +kernel
theorem d_M_begin_8 : decode b_M_begin 8 = .ok (.ireturn, 1) := by decide +kernel
theorem d_M_sizeOf_0 : decode b_M_sizeOf 0 = .ok (.iload_n 1, 1) := by decide +kernel
theorem d_M_sizeOf_1 : decode b_M_sizeOf 1 = .ok (.aload_n 0, 1) := by decide +kernel
theorem d_M_sizeOf_2 : decode b_M_sizeOf 2 = .ok (.getfield 73, 3) := by decide +kernel
theorem d_M_sizeOf_5 : decode b_M_sizeOf 5 = .ok (.iconst 1, 1) := by decide +kernel
theorem d_M_sizeOf_6 : decode b_M_sizeOf 6 = .ok (.isub, 1) := by decide +kernel
theorem d_M_sizeOf_7 : decode b_M_sizeOf 7 = .ok (.if_icmp .ge 10, 3) := by decide +kernel
theorem d_M_sizeOf_10 : decode b_M_sizeOf 10 = .ok (.aload_n 0, 1) := by decide +kernel
theorem d_M_sizeOf_11 : decode b_M_sizeOf 11 = .ok (.getfield 70, 3) := by decide +kernel
theorem d_M_sizeOf_14 : decode b_M_sizeOf 14 = .ok (.goto 13, 3) := by decide +kernel
theorem d_M_sizeOf_17 : decode b_M_sizeOf 17 = .ok (.aload_n 0, 1) := by decide +kernel
theorem d_M_sizeOf_18 : decode b_M_sizeOf 18 = .ok (.getfield 41, 3) := by decide +kernel
theorem d_M_sizeOf_21 : decode b_M_sizeOf 21 = .ok (.aload_n 0, 1) := by decide +kernel
theorem d_M_sizeOf_22 : decode b_M_sizeOf 22 = .ok (.iload_n 1, 1) := by decide +kernel
theorem d_M_sizeOf_23 : decode b_M_sizeOf 23 = .ok (.invokevirtual 76, 3) := by decide +kernel
theorem d_M_sizeOf_26 : decode b_M_sizeOf 26 = .ok (.isub, 1) := by decide +kernel
theorem d_M_sizeOf_27 : decode b_M_sizeOf 27 = .ok (.ireturn, 1) := by decide +kernel
theorem d_M_badHead_0 : decode b_M_badHead 0 = .ok (.sipush 1024, 3) := by decide +kernel
theorem d_M_badHead_3 : decode b_M_badHead 3 = .ok (.istore_n 1, 1) := by decide +kernel
theorem d_M_badHead_4 : decode b_M_badHead 4 = .ok (.aload_n 0, 1) := by decide +kernel
theorem d_M_badHead_5 : decode b_M_badHead 5 = .ok (.iload_n 1, 1) := by decide +kernel
theorem d_M_badHead_6 : decode b_M_badHead 6 = .ok (.bipush 32, 2) := by decide +kernel
theorem d_M_badHead_8 : decode b_M_badHead 8 = .ok (.iadd, 1) := by decide +kernel
theorem d_M_badHead_9 : decode b_M_badHead 9 = .ok (.invokevirtual 79, 3) := by decide +kernel
theorem d_M_badHead_12 : decode b_M_badHead 12 = .ok (.lstore_n 2, 1) := by decide +kernel
theorem d_M_badHead_13 : decode b_M_badHead 13 = .ok (.aload_n 0, 1) := by decide +kernel
theorem d_M_badHead_14 : decode b_M_badHead 14 = .ok (.iload_n 1, 1) := by decide +kernel
theorem d_M_badHead_15 : decode b_M_badHead 15 = .ok (.bipush 40, 2) := by decide +kernel
theorem d_M_badHead_17 : decode b_M_badHead 17 = .ok (.iadd, 1) := by decide +kernel
theorem d_M_badHead_18 : decode b_M_badHead 18 = .ok (.invokevirtual 79, 3) := by decide +kernel
theorem d_M_badHead_21 : decode b_M_badHead 21 = .ok (.lstore 4, 2) := by decide +kernel
theorem d_M_badHead_23 : decode b_M_badHead 23 = .ok (.lload_n 2, 1) := by decide +kernel
theorem d_M_badHead_24 : decode b_M_badHead 24 = .ok (.ldc2_w 83, 3) := by decide +kernel
theorem d_M_badHead_27 : decode b_M_badHead 27 = .ok (.lcmp, 1) := by decide +kernel
theorem d_M_badHead_28 : decode b_M_badHead 28 = .ok (.ifCond .eq 19, 3) := by decide +kernel
theorem d_M_badHead_31 : decode b_M_badHead 31 = .ok (.lload_n 2, 1) := by decide +kernel
theorem d_M_badHead_32 : decode b_M_badHead 32 = .ok (.ldc2_w 85, 3) := by decide +kernel
theorem d_M_badHead_35 : decode b_M_badHead 35 = .ok (.lcmp, 1) := by decide +kernel
theorem d_M_badHead_36 : decode b_M_badHead 36 = .ok (.ifCond .eq 11, 3) := by decide +kernel
theorem d_M_badHead_39 : decode b_M_badHead 39 = .ok (.lload_n 2, 1) := by decide +kernel
theorem d_M_badHead_40 : decode b_M_badHead 40 = .ok (.ldc2_w 87, 3) := by decide +kernel
theorem d_M_badHead_43 : decode b_M_badHead 43 = .ok (.lcmp, 1) := by decide +kernel
theorem d_M_badHead_44 : decode b_M_badHead 44 = .ok (.ifCond .ne 32, 3) := by decide +kernel
theorem d_M_badHead_47 : decode b_M_badHead 47 = .ok (.lload 4, 2) := by decide +kernel
theorem d_M_badHead_49 : decode b_M_badHead 49 = .ok (.ldc2_w 89, 3) := by decide +kernel
theorem d_M_badHead_52 : decode b_M_badHead 52 = .ok (.lcmp, 1) := by decide +kernel
theorem d_M_badHead_53 : decode b_M_badHead 53 = .ok (.ifCond .lt 23, 3) := by decide +kernel
theorem d_M_badHead_56 : decode b_M_badHead 56 = .ok (.lload 4, 2) := by decide +kernel
theorem d_M_badHead_58 : decode b_M_badHead 58 = .ok (.ldc2_w 91, 3) := by decide +kernel
theorem d_M_badHead_61 : decode b_M_badHead 61 = .ok (.lcmp, 1) := by decide +kernel
theorem d_M_badHead_62 : decode b_M_badHead 62 = .ok (.ifCond .gt 14, 3) := by decide +kernel
theorem d_M_badHead_65 : decode b_M_badHead 65 = .ok (.lload 4, 2) := by decide +kernel
theorem d_M_badHead_67 : decode b_M_badHead 67 = .ok (.ldc2_w 89, 3) := by decide +kernel
theorem d_M_badHead_70 : decode b_M_badHead 70 = .ok (.lrem, 1) := by decide +kernel
theorem d_M_badHead_71 : decode b_M_badHead 71 = .ok (.lconst 0, 1) := by decide +kernel
theorem d_M_badHead_72 : decode b_M_badHead 72 = .ok (.lcmp, 1) := by decide +kernel
theorem d_M_badHead_73 : decode b_M_badHead 73 = .ok (.ifCond .eq 5, 3) := by decide +kernel
theorem d_M_badHead_76 : decode b_M_badHead 76 = .ok (.iconst 1, 1) := by decide +kernel
theorem d_M_badHead_77 : decode b_M_badHead 77 = .ok (.ireturn, 1) := by decide +kernel
theorem d_M_badHead_78 : decode b_M_badHead 78 = .ok (.aload_n 0, 1) := by decide +kernel
theorem d_M_badHead_79 : decode b_M_badHead 79 = .ok (.lload_n 2, 1) := by decide +kernel
theorem d_M_badHead_80 : decode b_M_badHead 80 = .ok (.l2i, 1) := by decide +kernel
theorem d_M_badHead_81 : decode b_M_badHead 81 = .ok (.putfield 70, 3) := by decide +kernel
theorem d_M_badHead_84 : decode b_M_badHead 84 = .ok (.aload_n 0, 1) := by decide +kernel
theorem d_M_badHead_85 : decode b_M_badHead 85 = .ok (.lload 4, 2) := by decide +kernel
theorem d_M_badHead_87 : decode b_M_badHead 87 = .ok (.l2i, 1) := by decide +kernel
theorem d_M_badHead_88 : decode b_M_badHead 88 = .ok (.putfield 93, 3) := by decide +kernel
theorem d_M_badHead_91 : decode b_M_badHead 91 = .ok (.aload_n 0, 1) := by decide +kernel
theorem d_M_badHead_92 : decode b_M_badHead 92 = .ok (.aload_n 0, 1) := by decide +kernel
theorem d_M_badHead_93 : decode b_M_badHead 93 = .ok (.getfield 93, 3) := by decide +kernel
theorem d_M_badHead_96 : decode b_M_badHead 96 = .ok (.bipush 8, 2) := by decide +kernel
theorem d_M_badHead_98 : decode b_M_badHead 98 = .ok (.idiv, 1) := by decide +kernel
theorem d_M_badHead_99 : decode b_M_badHead 99 = .ok (.putfield 96, 3) := by decide +kernel
theorem d_M_badHead_102 : decode b_M_badHead 102 = .ok (.aload_n 0, 1) := by decide +kernel
theorem d_M_badHead_103 : decode b_M_badHead 103 = .ok (.aload_n 0, 1) := by decide +kernel
theorem d_M_badHead_104 : decode b_M_badHead 104 = .ok (.getfield 41, 3) := by decide +kernel
theorem d_M_badHead_107 : decode b_M_badHead 107 = .ok (.iconst 1, 1) := by decide +kernel
theorem d_M_badHead_108 : decode b_M_badHead 108 = .ok (.isub, 1) := by decide +kernel
theorem d_M_badHead_109 : decode b_M_badHead 109 = .ok (.aload_n 0, 1) := by decide +kernel
theorem d_M_badHead_110 : decode b_M_badHead 110 = .ok (.getfield 70, 3) := by decide +kernel
theorem d_M_badHead_113 : decode b_M_badHead 113 = .ok (.iadd, 1) := by decide +kernel
theorem d_M_badHead_114 : decode b_M_badHead 114 = .ok (.iconst 1, 1) := by decide +kernel
theorem d_M_badHead_115 : decode b_M_badHead 115 = .ok (.isub, 1) := by decide +kernel
theorem d_M_badHead_116 : decode b_M_badHead 116 = .ok (.aload_n 0, 1) := by decide +kernel
theorem d_M_badHead_117 : decode b_M_badHead 117 = .ok (.getfield 70, 3) := by decide +kernel
theorem d_M_badHead_120 : decode b_M_badHead 120 = .ok (.idiv, 1) := by decide +kernel
theorem d_M_badHead_121 : decode b_M_badHead 121 = .ok (.putfield 73, 3) := by decide +kernel
theorem d_M_badHead_124 : decode b_M_badHead 124 = .ok (.aload_n 0, 1) := by decide +kernel
theorem d_M_badHead_125 : decode b_M_badHead 125 = .ok (.iload_n 1, 1) := by decide +kernel
theorem d_M_badHead_126 : decode b_M_badHead 126 = .ok (.invokevirtual 79, 3) := by decide +kernel
theorem d_M_badHead_129 : decode b_M_badHead 129 = .ok (.aload_n 0, 1) := by decide +kernel
theorem d_M_badHead_130 : decode b_M_badHead 130 = .ok (.getfield 73, 3) := by decide +kernel
theorem d_M_badHead_133 : decode b_M_badHead 133 = .ok (.i2l, 1) := by decide +kernel
theorem d_M_badHead_134 : decode b_M_badHead 134 = .ok (.aload_n 0, 1) := by decide +kernel
theorem d_M_badHead_135 : decode b_M_badHead 135 = .ok (.getfield 93, 3) := by decide +kernel
theorem d_M_badHead_138 : decode b_M_badHead 138 = .ok (.i2l, 1) := by decide +kernel
theorem d_M_badHead_139 : decode b_M_badHead 139 = .ok (.lmul, 1) := by decide +kernel
theorem d_M_badHead_140 : decode b_M_badHead 140 = .ok (.lcmp, 1) := by decide +kernel
theorem d_M_badHead_141 : decode b_M_badHead 141 = .ok (.ifCond .ne 87, 3) := by decide +kernel
theorem d_M_badHead_144 : decode b_M_badHead 144 = .ok (.aload_n 0, 1) := by decide +kernel
theorem d_M_badHead_145 : decode b_M_badHead 145 = .ok (.iload_n 1, 1) := by decide +kernel
theorem d_M_badHead_146 : decode b_M_badHead 146 = .ok (.iconst 4, 1) := by decide +kernel
theorem d_M_badHead_147 : decode b_M_badHead 147 = .ok (.iadd, 1) := by decide +kernel
theorem d_M_badHead_148 : decode b_M_badHead 148 = .ok (.invokevirtual 79, 3) := by decide +kernel
theorem d_M_badHead_151 : decode b_M_badHead 151 = .ok (.aload_n 0, 1) := by decide +kernel
theorem d_M_badHead_152 : decode b_M_badHead 152 = .ok (.getfield 41, 3) := by decide +kernel
theorem d_M_badHead_155 : decode b_M_badHead 155 = .ok (.i2l, 1) := by decide +kernel
theorem d_M_badHead_156 : decode b_M_badHead 156 = .ok (.lcmp, 1) := by decide +kernel
theorem d_M_badHead_157 : decode b_M_badHead 157 = .ok (.ifCond .ne 71, 3) := by decide +kernel
theorem d_M_badHead_160 : decode b_M_badHead 160 = .ok (.aload_n 0, 1) := by decide +kernel
theorem d_M_badHead_161 : decode b_M_badHead 161 = .ok (.iload_n 1, 1) := by decide +kernel
theorem d_M_badHead_162 : decode b_M_badHead 162 = .ok (.bipush 20, 2) := by decide +kernel
theorem d_M_badHead_164 : decode b_M_badHead 164 = .ok (.iadd, 1) := by decide +kernel
theorem d_M_badHead_165 : decode b_M_badHead 165 = .ok (.invokevirtual 79, 3) := by decide +kernel
theorem d_M_badHead_168 : decode b_M_badHead 168 = .ok (.lconst 1, 1) := by decide +kernel
theorem d_M_badHead_169 : decode b_M_badHead 169 = .ok (.lcmp, 1) := by decide +kernel
theorem d_M_badHead_170 : decode b_M_badHead 170 = .ok (.ifCond .ne 58, 3) := by decide +kernel
theorem d_M_badHead_173 : decode b_M_badHead 173 = .ok (.aload_n 0, 1) := by decide +kernel
theorem d_M_badHead_174 : decode b_M_badHead 174 = .ok (.iload_n 1, 1) := by decide +kernel
theorem d_M_badHead_175 : decode b_M_badHead 175 = .ok (.bipush 24, 2) := by decide +kernel
theorem d_M_badHead_177 : decode b_M_badHead 177 = .ok (.iadd, 1) := by decide +kernel
theorem d_M_badHead_178 : decode b_M_badHead 178 = .ok (.invokevirtual 79, 3) := by decide +kernel
theorem d_M_badHead_181 : decode b_M_badHead 181 = .ok (.lconst 0, 1) := by decide +kernel
theorem d_M_badHead_182 : decode b_M_badHead 182 = .ok (.lcmp, 1) := by decide +kernel
theorem d_M_badHead_183 : decode b_M_badHead 183 = .ok (.ifCond .ne 45, 3) := by decide +kernel
theorem d_M_badHead_186 : decode b_M_badHead 186 = .ok (.aload_n 0, 1) := by decide +kernel
theorem d_M_badHead_187 : decode b_M_badHead 187 = .ok (.iload_n 1, 1) := by decide +kernel
theorem d_M_badHead_188 : decode b_M_badHead 188 = .ok (.bipush 36, 2) := by decide +kernel
theorem d_M_badHead_190 : decode b_M_badHead 190 = .ok (.iadd, 1) := by decide +kernel
theorem d_M_badHead_191 : decode b_M_badHead 191 = .ok (.invokevirtual 79, 3) := by decide +kernel
theorem d_M_badHead_194 : decode b_M_badHead 194 = .ok (.lload_n 2, 1) := by decide +kernel
theorem d_M_badHead_195 : decode b_M_badHead 195 = .ok (.lcmp, 1) := by decide +kernel
theorem d_M_badHead_196 : decode b_M_badHead 196 = .ok (.ifCond .ne 32, 3) := by decide +kernel
theorem d_M_badHead_199 : decode b_M_badHead 199 = .ok (.aload_n 0, 1) := by decide +kernel
theorem d_M_badHead_200 : decode b_M_badHead 200 = .ok (.iload_n 1, 1) := by decide +kernel
theorem d_M_badHead_201 : decode b_M_badHead 201 = .ok (.bipush 56, 2) := by decide +kernel
theorem d_M_badHead_203 : decode b_M_badHead 203 = .ok (.iadd, 1) := by decide +kernel
theorem d_M_badHead_204 : decode b_M_badHead 204 = .ok (.invokevirtual 51, 3) := by decide +kernel
theorem d_M_badHead_207 : decode b_M_badHead 207 = .ok (.ldc 99, 2) := by decide +kernel
theorem d_M_badHead_209 : decode b_M_badHead 209 = .ok (.if_icmp .ne 19, 3) := by decide +kernel
theorem d_M_badHead_212 : decode b_M_badHead 212 = .ok (.aload_n 0, 1) := by decide +kernel
theorem d_M_badHead_213 : decode b_M_badHead 213 = .ok (.iload_n 1, 1) := by decide +kernel
theorem d_M_badHead_214 : decode b_M_badHead 214 = .ok (.bipush 58, 2) := by decide +kernel
theorem d_M_badHead_216 : decode b_M_badHead 216 = .ok (.iadd, 1) := by decide +kernel
theorem d_M_badHead_217 : decode b_M_badHead 217 = .ok (.invokevirtual 51, 3) := by decide +kernel
theorem d_M_badHead_220 : decode b_M_badHead 220 = .ok (.iconst 1, 1) := by decide +kernel
theorem d_M_badHead_221 : decode b_M_badHead 221 = .ok (.if_icmp .ne 7, 3) := by decide +kernel
theorem d_M_badHead_224 : decode b_M_badHead 224 = .ok (.iconst 1, 1) := by decide +kernel
theorem d_M_badHead_225 : decode b_M_badHead 225 = .ok (.goto 4, 3) := by decide +kernel
theorem d_M_badHead_228 : decode b_M_badHead 228 = .ok (.iconst 0, 1) := by decide +kernel
theorem d_M_badHead_229 : decode b_M_badHead 229 = .ok (.istore 6, 2) := by decide +kernel
theorem d_M_badHead_231 : decode b_M_badHead 231 = .ok (.iload 6, 2) := by decide +kernel
theorem d_M_badHead_233 : decode b_M_badHead 233 = .ok (.ifCond .eq 71, 3) := by decide +kernel
theorem d_M_badHead_236 : decode b_M_badHead 236 = .ok (.aload_n 0, 1) := by decide +kernel
theorem d_M_badHead_237 : decode b_M_badHead 237 = .ok (.iload_n 1, 1) := by decide +kernel
theorem d_M_badHead_238 : decode b_M_badHead 238 = .ok (.bipush 76, 2) := by decide +kernel
theorem d_M_badHead_240 : decode b_M_badHead 240 = .ok (.iadd, 1) := by decide +kernel
theorem d_M_badHead_241 : decode b_M_badHead 241 = .ok (.invokevirtual 79, 3) := by decide +kernel
theorem d_M_badHead_244 : decode b_M_badHead 244 = .ok (.lconst 1, 1) := by decide +kernel
theorem d_M_badHead_245 : decode b_M_badHead 245 = .ok (.lcmp, 1) := by decide +kernel
theorem d_M_badHead_246 : decode b_M_badHead 246 = .ok (.ifCond .ne 58, 3) := by decide +kernel
theorem d_M_badHead_249 : decode b_M_badHead 249 = .ok (.aload_n 0, 1) := by decide +kernel
theorem d_M_badHead_250 : decode b_M_badHead 250 = .ok (.iload_n 1, 1) := by decide +kernel
theorem d_M_badHead_251 : decode b_M_badHead 251 = .ok (.bipush 84, 2) := by decide +kernel
theorem d_M_badHead_253 : decode b_M_badHead 253 = .ok (.iadd, 1) := by decide +kernel
theorem d_M_badHead_254 : decode b_M_badHead 254 = .ok (.invokevirtual 79, 3) := by decide +kernel
theorem d_M_badHead_257 : decode b_M_badHead 257 = .ok (.ldc2_w 100, 3) := by decide +kernel
theorem d_M_badHead_260 : decode b_M_badHead 260 = .ok (.lcmp, 1) := by decide +kernel
theorem d_M_badHead_261 : decode b_M_badHead 261 = .ok (.ifCond .ne 43, 3) := by decide +kernel
theorem d_M_badHead_264 : decode b_M_badHead 264 = .ok (.aload_n 0, 1) := by decide +kernel
theorem d_M_badHead_265 : decode b_M_badHead 265 = .ok (.iload_n 1, 1) := by decide +kernel
theorem d_M_badHead_266 : decode b_M_badHead 266 = .ok (.bipush 88, 2) := by decide +kernel
theorem d_M_badHead_268 : decode b_M_badHead 268 = .ok (.iadd, 1) := by decide +kernel
theorem d_M_badHead_269 : decode b_M_badHead 269 = .ok (.invokevirtual 51, 3) := by decide +kernel
theorem d_M_badHead_272 : decode b_M_badHead 272 = .ok (.sipush 128, 3) := by decide +kernel
theorem d_M_badHead_275 : decode b_M_badHead 275 = .ok (.if_icmp .ne 29, 3) := by decide +kernel
theorem d_M_badHead_278 : decode b_M_badHead 278 = .ok (.aload_n 0, 1) := by decide +kernel
theorem d_M_badHead_279 : decode b_M_badHead 279 = .ok (.iload_n 1, 1) := by decide +kernel
theorem d_M_badHead_280 : decode b_M_badHead 280 = .ok (.bipush 90, 2) := by decide +kernel
theorem d_M_badHead_282 : decode b_M_badHead 282 = .ok (.iadd, 1) := by decide +kernel
theorem d_M_badHead_283 : decode b_M_badHead 283 = .ok (.invokevirtual 51, 3) := by decide +kernel
theorem d_M_badHead_286 : decode b_M_badHead 286 = .ok (.ifCond .ne 18, 3) := by decide +kernel
theorem d_M_badHead_289 : decode b_M_badHead 289 = .ok (.aload_n 0, 1) := by decide +kernel
theorem d_M_badHead_290 : decode b_M_badHead 290 = .ok (.iload_n 1, 1) := by decide +kernel
theorem d_M_badHead_291 : decode b_M_badHead 291 = .ok (.bipush 96, 2) := by decide +kernel
theorem d_M_badHead_293 : decode b_M_badHead 293 = .ok (.iadd, 1) := by decide +kernel
theorem d_M_badHead_294 : decode b_M_badHead 294 = .ok (.invokevirtual 79, 3) := by decide +kernel
theorem d_M_badHead_297 : decode b_M_badHead 297 = .ok (.ldc2_w 102, 3) := by decide +kernel
theorem d_M_badHead_300 : decode b_M_badHead 300 = .ok (.lcmp, 1) := by decide +kernel
theorem d_M_badHead_301 : decode b_M_badHead 301 = .ok (.ifCond .eq 7, 3) := by decide +kernel
theorem d_M_badHead_304 : decode b_M_badHead 304 = .ok (.iconst 1, 1) := by decide +kernel
theorem d_M_badHead_305 : decode b_M_badHead 305 = .ok (.goto 4, 3) := by decide +kernel
theorem d_M_badHead_308 : decode b_M_badHead 308 = .ok (.iconst 0, 1) := by decide +kernel
theorem d_M_badHead_309 : decode b_M_badHead 309 = .ok (.ireturn, 1) := by decide +kernel
theorem d_M_badCopies_0 : decode b_M_badCopies 0 = .ok (.iconst 1, 1) := by decide +kernel
theorem d_M_badCopies_1 : decode b_M_badCopies 1 = .ok (.istore_n 1, 1) := by decide +kernel
theorem d_M_badCopies_2 : decode b_M_badCopies 2 = .ok (.iload_n 1, 1) := by decide +kernel
theorem d_M_badCopies_3 : decode b_M_badCopies 3 = .ok (.aload_n 0, 1) := by decide +kernel
theorem d_M_badCopies_4 : decode b_M_badCopies 4 = .ok (.getfield 73, 3) := by decide +kernel
theorem d_M_badCopies_7 : decode b_M_badCopies 7 = .ok (.if_icmp .ge 86, 3) := by decide +kernel
theorem d_M_badCopies_10 : decode b_M_badCopies 10 = .ok (.aload_n 0, 1) := by decide +kernel
theorem d_M_badCopies_11 : decode b_M_badCopies 11 = .ok (.iload_n 1, 1) := by decide +kernel
theorem d_M_badCopies_12 : decode b_M_badCopies 12 = .ok (.invokevirtual 104, 3) := by decide +kernel
theorem d_M_badCopies_15 : decode b_M_badCopies 15 = .ok (.iconst 2, 1) := by decide +kernel
theorem d_M_badCopies_16 : decode b_M_badCopies 16 = .ok (.if_icmp .ge 5, 3) := by decide +kernel
theorem d_M_badCopies_19 : decode b_M_badCopies 19 = .ok (.iconst 1, 1) := by decide +kernel
theorem d_M_badCopies_20 : decode b_M_badCopies 20 = .ok (.ireturn, 1) := by decide +kernel
theorem d_M_badCopies_21 : decode b_M_badCopies 21 = .ok (.iconst 0, 1) := by decide +kernel
theorem d_M_badCopies_22 : decode b_M_badCopies 22 = .ok (.istore_n 2, 1) := by decide +kernel
theorem d_M_badCopies_23 : decode b_M_badCopies 23 = .ok (.iload_n 2, 1) := by decide +kernel
theorem d_M_badCopies_24 : decode b_M_badCopies 24 = .ok (.sipush 2048, 3) := by decide +kernel
theorem d_M_badCopies_27 : decode b_M_badCopies 27 = .ok (.if_icmp .ge 60, 3) := by decide +kernel
theorem d_M_badCopies_30 : decode b_M_badCopies 30 = .ok (.iload_n 2, 1) := by decide +kernel
theorem d_M_badCopies_31 : decode b_M_badCopies 31 = .ok (.bipush 90, 2) := by decide +kernel
theorem d_M_badCopies_33 : decode b_M_badCopies 33 = .ok (.if_icmp .ne 7, 3) := by decide +kernel
theorem d_M_badCopies_36 : decode b_M_badCopies 36 = .ok (.iload_n 1, 1) := by decide +kernel
theorem d_M_badCopies_37 : decode b_M_badCopies 37 = .ok (.goto 22, 3) := by decide +kernel
theorem d_M_badCopies_40 : decode b_M_badCopies 40 = .ok (.iload_n 2, 1) := by decide +kernel
theorem d_M_badCopies_41 : decode b_M_badCopies 41 = .ok (.bipush 91, 2) := by decide +kernel
theorem d_M_badCopies_43 : decode b_M_badCopies 43 = .ok (.if_icmp .ne 7, 3) := by decide +kernel
theorem d_M_badCopies_46 : decode b_M_badCopies 46 = .ok (.iconst 0, 1) := by decide +kernel
theorem d_M_badCopies_47 : decode b_M_badCopies 47 = .ok (.goto 12, 3) := by decide +kernel
theorem d_M_badCopies_50 : decode b_M_badCopies 50 = .ok (.aload_n 0, 1) := by decide +kernel
theorem d_M_badCopies_51 : decode b_M_badCopies 51 = .ok (.sipush 1024, 3) := by decide +kernel
theorem d_M_badCopies_54 : decode b_M_badCopies 54 = .ok (.iload_n 2, 1) := by decide +kernel
theorem d_M_badCopies_55 : decode b_M_badCopies 55 = .ok (.iadd, 1) := by decide +kernel
theorem d_M_badCopies_56 : decode b_M_badCopies 56 = .ok (.invokevirtual 47, 3) := by decide +kernel
theorem d_M_badCopies_59 : decode b_M_badCopies 59 = .ok (.istore_n 3, 1) := by decide +kernel
theorem d_M_badCopies_60 : decode b_M_badCopies 60 = .ok (.aload_n 0, 1) := by decide +kernel
theorem d_M_badCopies_61 : decode b_M_badCopies 61 = .ok (.sipush 1024, 3) := by decide +kernel
theorem d_M_badCopies_64 : decode b_M_badCopies 64 = .ok (.aload_n 0, 1) := by decide +kernel
theorem d_M_badCopies_65 : decode b_M_badCopies 65 = .ok (.iload_n 1, 1) := by decide +kernel
theorem d_M_badCopies_66 : decode b_M_badCopies 66 = .ok (.invokevirtual 76, 3) := by decide +kernel
theorem d_M_badCopies_69 : decode b_M_badCopies 69 = .ok (.imul, 1) := by decide +kernel
theorem d_M_badCopies_70 : decode b_M_badCopies 70 = .ok (.iload_n 2, 1) := by decide +kernel
theorem d_M_badCopies_71 : decode b_M_badCopies 71 = .ok (.iadd, 1) := by decide +kernel
theorem d_M_badCopies_72 : decode b_M_badCopies 72 = .ok (.invokevirtual 47, 3) := by decide +kernel
theorem d_M_badCopies_75 : decode b_M_badCopies 75 = .ok (.iload_n 3, 1) := by decide +kernel
theorem d_M_badCopies_76 : decode b_M_badCopies 76 = .ok (.if_icmp .eq 5, 3) := by decide +kernel
theorem d_M_badCopies_79 : decode b_M_badCopies 79 = .ok (.iconst 1, 1) := by decide +kernel
theorem d_M_badCopies_80 : decode b_M_badCopies 80 = .ok (.ireturn, 1) := by decide +kernel
theorem d_M_badCopies_81 : decode b_M_badCopies 81 = .ok (.iinc 2 1, 3) := by decide +kernel
theorem d_M_badCopies_84 : decode b_M_badCopies 84 = .ok (.goto (-61), 3) := by decide +kernel
theorem d_M_badCopies_87 : decode b_M_badCopies 87 = .ok (.iinc 1 1, 3) := by decide +kernel
theorem d_M_badCopies_90 : decode b_M_badCopies 90 = .ok (.goto (-88), 3) := by decide +kernel
theorem d_M_badCopies_93 : decode b_M_badCopies 93 = .ok (.iconst 0, 1) := by decide +kernel
theorem d_M_badCopies_94 : decode b_M_badCopies 94 = .ok (.ireturn, 1) := by decide +kernel
theorem d_M_fixes_0 : decode b_M_fixes 0 = .ok (.aload_n 0, 1) := by decide +kernel
theorem d_M_fixes_1 : decode b_M_fixes 1 = .ok (.getfield 18, 3) := by decide +kernel
theorem d_M_fixes_4 : decode b_M_fixes 4 = .ok (.iload_n 1, 1) := by decide +kernel
theorem d_M_fixes_5 : decode b_M_fixes 5 = .ok (.baload, 1) := by decide +kernel
theorem d_M_fixes_6 : decode b_M_fixes 6 = .ok (.istore_n 2, 1) := by decide +kernel
theorem d_M_fixes_7 : decode b_M_fixes 7 = .ok (.aload_n 0, 1) := by decide +kernel
theorem d_M_fixes_8 : decode b_M_fixes 8 = .ok (.getfield 18, 3) := by decide +kernel
theorem d_M_fixes_11 : decode b_M_fixes 11 = .ok (.iload_n 1, 1) := by decide +kernel
theorem d_M_fixes_12 : decode b_M_fixes 12 = .ok (.iconst 1, 1) := by decide +kernel
theorem d_M_fixes_13 : decode b_M_fixes 13 = .ok (.bastore, 1) := by decide +kernel
theorem d_M_fixes_14 : decode b_M_fixes 14 = .ok (.iload_n 2, 1) := by decide +kernel
theorem d_M_fixes_15 : decode b_M_fixes 15 = .ok (.ifCond .ne 7, 3) := by decide +kernel
theorem d_M_fixes_18 : decode b_M_fixes 18 = .ok (.iconst 1, 1) := by decide +kernel
theorem d_M_fixes_19 : decode b_M_fixes 19 = .ok (.goto 4, 3) := by decide +kernel
theorem d_M_fixes_22 : decode b_M_fixes 22 = .ok (.iconst 0, 1) := by decide +kernel
theorem d_M_fixes_23 : decode b_M_fixes 23 = .ok (.ireturn, 1) := by decide +kernel
theorem d_M_badMaps_0 : decode b_M_badMaps 0 = .ok (.iconst 0, 1) := by decide +kernel
theorem d_M_badMaps_1 : decode b_M_badMaps 1 = .ok (.istore_n 1, 1) := by decide +kernel
theorem d_M_badMaps_2 : decode b_M_badMaps 2 = .ok (.iload_n 1, 1) := by decide +kernel
theorem d_M_badMaps_3 : decode b_M_badMaps 3 = .ok (.aload_n 0, 1) := by decide +kernel
theorem d_M_badMaps_4 : decode b_M_badMaps 4 = .ok (.getfield 73, 3) := by decide +kernel
theorem d_M_badMaps_7 : decode b_M_badMaps 7 = .ok (.if_icmp .ge 191, 3) := by decide +kernel
theorem d_M_badMaps_10 : decode b_M_badMaps 10 = .ok (.sipush 2048, 3) := by decide +kernel
theorem d_M_badMaps_13 : decode b_M_badMaps 13 = .ok (.bipush 32, 2) := by decide +kernel
theorem d_M_badMaps_15 : decode b_M_badMaps 15 = .ok (.iload_n 1, 1) := by decide +kernel
theorem d_M_badMaps_16 : decode b_M_badMaps 16 = .ok (.imul, 1) := by decide +kernel
theorem d_M_badMaps_17 : decode b_M_badMaps 17 = .ok (.iadd, 1) := by decide +kernel
theorem d_M_badMaps_18 : decode b_M_badMaps 18 = .ok (.istore_n 2, 1) := by decide +kernel
theorem d_M_badMaps_19 : decode b_M_badMaps 19 = .ok (.aload_n 0, 1) := by decide +kernel
theorem d_M_badMaps_20 : decode b_M_badMaps 20 = .ok (.iload_n 2, 1) := by decide +kernel
theorem d_M_badMaps_21 : decode b_M_badMaps 21 = .ok (.invokevirtual 79, 3) := by decide +kernel
theorem d_M_badMaps_24 : decode b_M_badMaps 24 = .ok (.lstore_n 3, 1) := by decide +kernel
theorem d_M_badMaps_25 : decode b_M_badMaps 25 = .ok (.lload_n 3, 1) := by decide +kernel
theorem d_M_badMaps_26 : decode b_M_badMaps 26 = .ok (.aload_n 0, 1) := by decide +kernel
theorem d_M_badMaps_27 : decode b_M_badMaps 27 = .ok (.iload_n 1, 1) := by decide +kernel
theorem d_M_badMaps_28 : decode b_M_badMaps 28 = .ok (.invokevirtual 76, 3) := by decide +kernel
theorem d_M_badMaps_31 : decode b_M_badMaps 31 = .ok (.i2l, 1) := by decide +kernel
theorem d_M_badMaps_32 : decode b_M_badMaps 32 = .ok (.lcmp, 1) := by decide +kernel
theorem d_M_badMaps_33 : decode b_M_badMaps 33 = .ok (.ifCond .le 61, 3) := by decide +kernel
theorem d_M_badMaps_36 : decode b_M_badMaps 36 = .ok (.lload_n 3, 1) := by decide +kernel
theorem d_M_badMaps_37 : decode b_M_badMaps 37 = .ok (.ldc2_w 102, 3) := by decide +kernel
theorem d_M_badMaps_40 : decode b_M_badMaps 40 = .ok (.ladd, 1) := by decide +kernel
theorem d_M_badMaps_41 : decode b_M_badMaps 41 = .ok (.aload_n 0, 1) := by decide +kernel
theorem d_M_badMaps_42 : decode b_M_badMaps 42 = .ok (.getfield 96, 3) := by decide +kernel
theorem d_M_badMaps_45 : decode b_M_badMaps 45 = .ok (.i2l, 1) := by decide +kernel
theorem d_M_badMaps_46 : decode b_M_badMaps 46 = .ok (.ladd, 1) := by decide +kernel
theorem d_M_badMaps_47 : decode b_M_badMaps 47 = .ok (.aload_n 0, 1) := by decide +kernel
theorem d_M_badMaps_48 : decode b_M_badMaps 48 = .ok (.iload_n 1, 1) := by decide +kernel
theorem d_M_badMaps_49 : decode b_M_badMaps 49 = .ok (.invokevirtual 76, 3) := by decide +kernel
theorem d_M_badMaps_52 : decode b_M_badMaps 52 = .ok (.aload_n 0, 1) := by decide +kernel
theorem d_M_badMaps_53 : decode b_M_badMaps 53 = .ok (.iload_n 1, 1) := by decide +kernel
theorem d_M_badMaps_54 : decode b_M_badMaps 54 = .ok (.invokevirtual 104, 3) := by decide +kernel
theorem d_M_badMaps_57 : decode b_M_badMaps 57 = .ok (.iadd, 1) := by decide +kernel
theorem d_M_badMaps_58 : decode b_M_badMaps 58 = .ok (.i2l, 1) := by decide +kernel
theorem d_M_badMaps_59 : decode b_M_badMaps 59 = .ok (.lcmp, 1) := by decide +kernel
theorem d_M_badMaps_60 : decode b_M_badMaps 60 = .ok (.ifCond .gt 34, 3) := by decide +kernel
theorem d_M_badMaps_63 : decode b_M_badMaps 63 = .ok (.aload_n 0, 1) := by decide +kernel
theorem d_M_badMaps_64 : decode b_M_badMaps 64 = .ok (.iload_n 2, 1) := by decide +kernel
theorem d_M_badMaps_65 : decode b_M_badMaps 65 = .ok (.iconst 4, 1) := by decide +kernel
theorem d_M_badMaps_66 : decode b_M_badMaps 66 = .ok (.iadd, 1) := by decide +kernel
theorem d_M_badMaps_67 : decode b_M_badMaps 67 = .ok (.invokevirtual 79, 3) := by decide +kernel
theorem d_M_badMaps_70 : decode b_M_badMaps 70 = .ok (.lload_n 3, 1) := by decide +kernel
theorem d_M_badMaps_71 : decode b_M_badMaps 71 = .ok (.lconst 1, 1) := by decide +kernel
theorem d_M_badMaps_72 : decode b_M_badMaps 72 = .ok (.ladd, 1) := by decide +kernel
theorem d_M_badMaps_73 : decode b_M_badMaps 73 = .ok (.lcmp, 1) := by decide +kernel
theorem d_M_badMaps_74 : decode b_M_badMaps 74 = .ok (.ifCond .ne 20, 3) := by decide +kernel
theorem d_M_badMaps_77 : decode b_M_badMaps 77 = .ok (.aload_n 0, 1) := by decide +kernel
theorem d_M_badMaps_78 : decode b_M_badMaps 78 = .ok (.iload_n 2, 1) := by decide +kernel
theorem d_M_badMaps_79 : decode b_M_badMaps 79 = .ok (.bipush 8, 2) := by decide +kernel
theorem d_M_badMaps_81 : decode b_M_badMaps 81 = .ok (.iadd, 1) := by decide +kernel
theorem d_M_badMaps_82 : decode b_M_badMaps 82 = .ok (.invokevirtual 79, 3) := by decide +kernel
theorem d_M_badMaps_85 : decode b_M_badMaps 85 = .ok (.lload_n 3, 1) := by decide +kernel
theorem d_M_badMaps_86 : decode b_M_badMaps 86 = .ok (.ldc2_w 102, 3) := by decide +kernel
theorem d_M_badMaps_89 : decode b_M_badMaps 89 = .ok (.ladd, 1) := by decide +kernel
theorem d_M_badMaps_90 : decode b_M_badMaps 90 = .ok (.lcmp, 1) := by decide +kernel
theorem d_M_badMaps_91 : decode b_M_badMaps 91 = .ok (.ifCond .eq 5, 3) := by decide +kernel
theorem d_M_badMaps_94 : decode b_M_badMaps 94 = .ok (.iconst 1, 1) := by decide +kernel
theorem d_M_badMaps_95 : decode b_M_badMaps 95 = .ok (.ireturn, 1) := by decide +kernel
theorem d_M_badMaps_96 : decode b_M_badMaps 96 = .ok (.aload_n 0, 1) := by decide +kernel
theorem d_M_badMaps_97 : decode b_M_badMaps 97 = .ok (.getfield 14, 3) := by decide +kernel
theorem d_M_badMaps_100 : decode b_M_badMaps 100 = .ok (.iload_n 1, 1) := by decide +kernel
theorem d_M_badMaps_101 : decode b_M_badMaps 101 = .ok (.lload_n 3, 1) := by decide +kernel
theorem d_M_badMaps_102 : decode b_M_badMaps 102 = .ok (.l2i, 1) := by decide +kernel
theorem d_M_badMaps_103 : decode b_M_badMaps 103 = .ok (.iastore, 1) := by decide +kernel
theorem d_M_badMaps_104 : decode b_M_badMaps 104 = .ok (.aload_n 0, 1) := by decide +kernel
theorem d_M_badMaps_105 : decode b_M_badMaps 105 = .ok (.aload_n 0, 1) := by decide +kernel
theorem d_M_badMaps_106 : decode b_M_badMaps 106 = .ok (.iload_n 1, 1) := by decide +kernel
theorem d_M_badMaps_107 : decode b_M_badMaps 107 = .ok (.invokevirtual 76, 3) := by decide +kernel
theorem d_M_badMaps_110 : decode b_M_badMaps 110 = .ok (.invokevirtual 107, 3) := by decide +kernel
theorem d_M_badMaps_113 : decode b_M_badMaps 113 = .ok (.ifCond .eq 21, 3) := by decide +kernel
theorem d_M_badMaps_116 : decode b_M_badMaps 116 = .ok (.aload_n 0, 1) := by decide +kernel
theorem d_M_badMaps_117 : decode b_M_badMaps 117 = .ok (.aload_n 0, 1) := by decide +kernel
theorem d_M_badMaps_118 : decode b_M_badMaps 118 = .ok (.iload_n 1, 1) := by decide +kernel
theorem d_M_badMaps_119 : decode b_M_badMaps 119 = .ok (.invokevirtual 76, 3) := by decide +kernel
theorem d_M_badMaps_122 : decode b_M_badMaps 122 = .ok (.iconst 1, 1) := by decide +kernel
theorem d_M_badMaps_123 : decode b_M_badMaps 123 = .ok (.iadd, 1) := by decide +kernel
theorem d_M_badMaps_124 : decode b_M_badMaps 124 = .ok (.invokevirtual 107, 3) := by decide +kernel
theorem d_M_badMaps_127 : decode b_M_badMaps 127 = .ok (.ifCond .eq 7, 3) := by decide +kernel
theorem d_M_badMaps_130 : decode b_M_badMaps 130 = .ok (.iconst 1, 1) := by decide +kernel
theorem d_M_badMaps_131 : decode b_M_badMaps 131 = .ok (.goto 4, 3) := by decide +kernel
theorem d_M_badMaps_134 : decode b_M_badMaps 134 = .ok (.iconst 0, 1) := by decide +kernel
theorem d_M_badMaps_135 : decode b_M_badMaps 135 = .ok (.istore 5, 2) := by decide +kernel
theorem d_M_badMaps_137 : decode b_M_badMaps 137 = .ok (.iconst 0, 1) := by decide +kernel
theorem d_M_badMaps_138 : decode b_M_badMaps 138 = .ok (.istore 6, 2) := by decide +kernel
theorem d_M_badMaps_140 : decode b_M_badMaps 140 = .ok (.iload 6, 2) := by decide +kernel
theorem d_M_badMaps_142 : decode b_M_badMaps 142 = .ok (.iconst 2, 1) := by decide +kernel
theorem d_M_badMaps_143 : decode b_M_badMaps 143 = .ok (.aload_n 0, 1) := by decide +kernel
theorem d_M_badMaps_144 : decode b_M_badMaps 144 = .ok (.getfield 96, 3) := by decide +kernel
theorem d_M_badMaps_147 : decode b_M_badMaps 147 = .ok (.iadd, 1) := by decide +kernel
theorem d_M_badMaps_148 : decode b_M_badMaps 148 = .ok (.if_icmp .ge 37, 3) := by decide +kernel
theorem d_M_badMaps_151 : decode b_M_badMaps 151 = .ok (.iload 5, 2) := by decide +kernel
theorem d_M_badMaps_153 : decode b_M_badMaps 153 = .ok (.ifCond .eq 23, 3) := by decide +kernel
theorem d_M_badMaps_156 : decode b_M_badMaps 156 = .ok (.aload_n 0, 1) := by decide +kernel
theorem d_M_badMaps_157 : decode b_M_badMaps 157 = .ok (.aload_n 0, 1) := by decide +kernel
theorem d_M_badMaps_158 : decode b_M_badMaps 158 = .ok (.getfield 14, 3) := by decide +kernel
theorem d_M_badMaps_161 : decode b_M_badMaps 161 = .ok (.iload_n 1, 1) := by decide +kernel
theorem d_M_badMaps_162 : decode b_M_badMaps 162 = .ok (.iaload, 1) := by decide +kernel
theorem d_M_badMaps_163 : decode b_M_badMaps 163 = .ok (.iload 6, 2) := by decide +kernel
theorem d_M_badMaps_165 : decode b_M_badMaps 165 = .ok (.iadd, 1) := by decide +kernel
theorem d_M_badMaps_166 : decode b_M_badMaps 166 = .ok (.invokevirtual 107, 3) := by decide +kernel
theorem d_M_badMaps_169 : decode b_M_badMaps 169 = .ok (.ifCond .eq 7, 3) := by decide +kernel
theorem d_M_badMaps_172 : decode b_M_badMaps 172 = .ok (.iconst 1, 1) := by decide +kernel
theorem d_M_badMaps_173 : decode b_M_badMaps 173 = .ok (.goto 4, 3) := by decide +kernel
theorem d_M_badMaps_176 : decode b_M_badMaps 176 = .ok (.iconst 0, 1) := by decide +kernel
theorem d_M_badMaps_177 : decode b_M_badMaps 177 = .ok (.istore 5, 2) := by decide +kernel
theorem d_M_badMaps_179 : decode b_M_badMaps 179 = .ok (.iinc 6 1, 3) := by decide +kernel
theorem d_M_badMaps_182 : decode b_M_badMaps 182 = .ok (.goto (-42), 3) := by decide +kernel
theorem d_M_badMaps_185 : decode b_M_badMaps 185 = .ok (.iload 5, 2) := by decide +kernel
theorem d_M_badMaps_187 : decode b_M_badMaps 187 = .ok (.ifCond .ne 5, 3) := by decide +kernel
theorem d_M_badMaps_190 : decode b_M_badMaps 190 = .ok (.iconst 1, 1) := by decide +kernel
theorem d_M_badMaps_191 : decode b_M_badMaps 191 = .ok (.ireturn, 1) := by decide +kernel
theorem d_M_badMaps_192 : decode b_M_badMaps 192 = .ok (.iinc 1 1, 3) := by decide +kernel
theorem d_M_badMaps_195 : decode b_M_badMaps 195 = .ok (.goto (-193), 3) := by decide +kernel
theorem d_M_badMaps_198 : decode b_M_badMaps 198 = .ok (.iconst 0, 1) := by decide +kernel
theorem d_M_badMaps_199 : decode b_M_badMaps 199 = .ok (.ireturn, 1) := by decide +kernel
