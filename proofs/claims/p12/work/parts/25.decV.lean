theorem d_V_beginAgain_0 : decode b_V_beginAgain 0 = .ok (.aload_n 0, 1) := by decide +kernel
theorem d_V_beginAgain_1 : decode b_V_beginAgain 1 = .ok (.getfield 41, 3) := by decide +kernel
theorem d_V_beginAgain_4 : decode b_V_beginAgain 4 = .ok (.invokevirtual 136, 3) := by decide +kernel
theorem d_V_beginAgain_7 : decode b_V_beginAgain 7 = .ok (.aload_n 0, 1) := by decide +kernel
theorem d_V_beginAgain_8 : decode b_V_beginAgain 8 = .ok (.iconst 2, 1) := by decide +kernel
theorem d_V_beginAgain_9 : decode b_V_beginAgain 9 = .ok (.putfield 45, 3) := by decide +kernel
theorem d_V_beginAgain_12 : decode b_V_beginAgain 12 = .ok (.return_, 1) := by decide +kernel
theorem d_V_put_0 : decode b_V_put 0 = .ok (.iload_n 2, 1) := by decide +kernel
theorem d_V_put_1 : decode b_V_put 1 = .ok (.iconst 1, 1) := by decide +kernel
theorem d_V_put_2 : decode b_V_put 2 = .ok (.if_icmp .lt 22, 3) := by decide +kernel
theorem d_V_put_5 : decode b_V_put 5 = .ok (.iload_n 2, 1) := by decide +kernel
theorem d_V_put_6 : decode b_V_put 6 = .ok (.bipush 8, 2) := by decide +kernel
theorem d_V_put_8 : decode b_V_put 8 = .ok (.if_icmp .gt 16, 3) := by decide +kernel
theorem d_V_put_11 : decode b_V_put 11 = .ok (.aload_n 0, 1) := by decide +kernel
theorem d_V_put_12 : decode b_V_put 12 = .ok (.getfield 14, 3) := by decide +kernel
theorem d_V_put_15 : decode b_V_put 15 = .ok (.iload_n 1, 1) := by decide +kernel
theorem d_V_put_16 : decode b_V_put 16 = .ok (.i2l, 1) := by decide +kernel
theorem d_V_put_17 : decode b_V_put 17 = .ok (.iload_n 2, 1) := by decide +kernel
theorem d_V_put_18 : decode b_V_put 18 = .ok (.invokevirtual 49, 3) := by decide +kernel
theorem d_V_put_21 : decode b_V_put 21 = .ok (.ifCond .ne 5, 3) := by decide +kernel
theorem d_V_put_24 : decode b_V_put 24 = .ok (.iconst 0, 1) := by decide +kernel
theorem d_V_put_25 : decode b_V_put 25 = .ok (.ireturn, 1) := by decide +kernel
theorem d_V_put_26 : decode b_V_put 26 = .ok (.aload_n 0, 1) := by decide +kernel
theorem d_V_put_27 : decode b_V_put 27 = .ok (.getfield 14, 3) := by decide +kernel
theorem d_V_put_30 : decode b_V_put 30 = .ok (.iload_n 1, 1) := by decide +kernel
theorem d_V_put_31 : decode b_V_put 31 = .ok (.i2l, 1) := by decide +kernel
theorem d_V_put_32 : decode b_V_put 32 = .ok (.iload_n 2, 1) := by decide +kernel
theorem d_V_put_33 : decode b_V_put 33 = .ok (.lload_n 3, 1) := by decide +kernel
theorem d_V_put_34 : decode b_V_put 34 = .ok (.invokevirtual 53, 3) := by decide +kernel
theorem d_V_put_37 : decode b_V_put 37 = .ok (.aload_n 0, 1) := by decide +kernel
theorem d_V_put_38 : decode b_V_put 38 = .ok (.invokevirtual 57, 3) := by decide +kernel
theorem d_V_put_41 : decode b_V_put 41 = .ok (.iconst 1, 1) := by decide +kernel
theorem d_V_put_42 : decode b_V_put 42 = .ok (.ireturn, 1) := by decide +kernel
theorem d_V_fill_0 : decode b_V_fill 0 = .ok (.aload_n 0, 1) := by decide +kernel
theorem d_V_fill_1 : decode b_V_fill 1 = .ok (.getfield 14, 3) := by decide +kernel
theorem d_V_fill_4 : decode b_V_fill 4 = .ok (.iload_n 1, 1) := by decide +kernel
theorem d_V_fill_5 : decode b_V_fill 5 = .ok (.i2l, 1) := by decide +kernel
theorem d_V_fill_6 : decode b_V_fill 6 = .ok (.iload_n 2, 1) := by decide +kernel
theorem d_V_fill_7 : decode b_V_fill 7 = .ok (.invokevirtual 49, 3) := by decide +kernel
theorem d_V_fill_10 : decode b_V_fill 10 = .ok (.ifCond .ne 5, 3) := by decide +kernel
theorem d_V_fill_13 : decode b_V_fill 13 = .ok (.iconst 0, 1) := by decide +kernel
theorem d_V_fill_14 : decode b_V_fill 14 = .ok (.ireturn, 1) := by decide +kernel
theorem d_V_fill_15 : decode b_V_fill 15 = .ok (.aload_n 0, 1) := by decide +kernel
theorem d_V_fill_16 : decode b_V_fill 16 = .ok (.getfield 14, 3) := by decide +kernel
theorem d_V_fill_19 : decode b_V_fill 19 = .ok (.iload_n 1, 1) := by decide +kernel
theorem d_V_fill_20 : decode b_V_fill 20 = .ok (.iload_n 2, 1) := by decide +kernel
theorem d_V_fill_21 : decode b_V_fill 21 = .ok (.iload_n 3, 1) := by decide +kernel
theorem d_V_fill_22 : decode b_V_fill 22 = .ok (.invokevirtual 60, 3) := by decide +kernel
theorem d_V_fill_25 : decode b_V_fill 25 = .ok (.aload_n 0, 1) := by decide +kernel
theorem d_V_fill_26 : decode b_V_fill 26 = .ok (.invokevirtual 57, 3) := by decide +kernel
theorem d_V_fill_29 : decode b_V_fill 29 = .ok (.iconst 1, 1) := by decide +kernel
theorem d_V_fill_30 : decode b_V_fill 30 = .ok (.ireturn, 1) := by decide +kernel
theorem d_V_copy_0 : decode b_V_copy 0 = .ok (.aload_n 0, 1) := by decide +kernel
theorem d_V_copy_1 : decode b_V_copy 1 = .ok (.getfield 14, 3) := by decide +kernel
theorem d_V_copy_4 : decode b_V_copy 4 = .ok (.iload_n 1, 1) := by decide +kernel
theorem d_V_copy_5 : decode b_V_copy 5 = .ok (.i2l, 1) := by decide +kernel
theorem d_V_copy_6 : decode b_V_copy 6 = .ok (.iload_n 3, 1) := by decide +kernel
theorem d_V_copy_7 : decode b_V_copy 7 = .ok (.invokevirtual 49, 3) := by decide +kernel
theorem d_V_copy_10 : decode b_V_copy 10 = .ok (.ifCond .eq 16, 3) := by decide +kernel
theorem d_V_copy_13 : decode b_V_copy 13 = .ok (.aload_n 0, 1) := by decide +kernel
theorem d_V_copy_14 : decode b_V_copy 14 = .ok (.getfield 14, 3) := by decide +kernel
theorem d_V_copy_17 : decode b_V_copy 17 = .ok (.iload_n 2, 1) := by decide +kernel
theorem d_V_copy_18 : decode b_V_copy 18 = .ok (.i2l, 1) := by decide +kernel
theorem d_V_copy_19 : decode b_V_copy 19 = .ok (.iload_n 3, 1) := by decide +kernel
theorem d_V_copy_20 : decode b_V_copy 20 = .ok (.invokevirtual 49, 3) := by decide +kernel
theorem d_V_copy_23 : decode b_V_copy 23 = .ok (.ifCond .ne 5, 3) := by decide +kernel
theorem d_V_copy_26 : decode b_V_copy 26 = .ok (.iconst 0, 1) := by decide +kernel
theorem d_V_copy_27 : decode b_V_copy 27 = .ok (.ireturn, 1) := by decide +kernel
theorem d_V_copy_28 : decode b_V_copy 28 = .ok (.aload_n 0, 1) := by decide +kernel
theorem d_V_copy_29 : decode b_V_copy 29 = .ok (.getfield 14, 3) := by decide +kernel
theorem d_V_copy_32 : decode b_V_copy 32 = .ok (.iload_n 1, 1) := by decide +kernel
theorem d_V_copy_33 : decode b_V_copy 33 = .ok (.iload_n 2, 1) := by decide +kernel
theorem d_V_copy_34 : decode b_V_copy 34 = .ok (.iload_n 3, 1) := by decide +kernel
theorem d_V_copy_35 : decode b_V_copy 35 = .ok (.invokevirtual 64, 3) := by decide +kernel
theorem d_V_copy_38 : decode b_V_copy 38 = .ok (.aload_n 0, 1) := by decide +kernel
theorem d_V_copy_39 : decode b_V_copy 39 = .ok (.invokevirtual 57, 3) := by decide +kernel
theorem d_V_copy_42 : decode b_V_copy 42 = .ok (.iconst 1, 1) := by decide +kernel
theorem d_V_copy_43 : decode b_V_copy 43 = .ok (.ireturn, 1) := by decide +kernel
theorem d_V_byteAt_0 : decode b_V_byteAt 0 = .ok (.aload_n 0, 1) := by decide +kernel
theorem d_V_byteAt_1 : decode b_V_byteAt 1 = .ok (.getfield 14, 3) := by decide +kernel
theorem d_V_byteAt_4 : decode b_V_byteAt 4 = .ok (.iload_n 1, 1) := by decide +kernel
theorem d_V_byteAt_5 : decode b_V_byteAt 5 = .ok (.i2l, 1) := by decide +kernel
theorem d_V_byteAt_6 : decode b_V_byteAt 6 = .ok (.iconst 1, 1) := by decide +kernel
theorem d_V_byteAt_7 : decode b_V_byteAt 7 = .ok (.invokevirtual 49, 3) := by decide +kernel
theorem d_V_byteAt_10 : decode b_V_byteAt 10 = .ok (.ifCond .eq 17, 3) := by decide +kernel
theorem d_V_byteAt_13 : decode b_V_byteAt 13 = .ok (.aload_n 0, 1) := by decide +kernel
theorem d_V_byteAt_14 : decode b_V_byteAt 14 = .ok (.getfield 14, 3) := by decide +kernel
theorem d_V_byteAt_17 : decode b_V_byteAt 17 = .ok (.iload_n 1, 1) := by decide +kernel
theorem d_V_byteAt_18 : decode b_V_byteAt 18 = .ok (.i2l, 1) := by decide +kernel
theorem d_V_byteAt_19 : decode b_V_byteAt 19 = .ok (.iconst 1, 1) := by decide +kernel
theorem d_V_byteAt_20 : decode b_V_byteAt 20 = .ok (.invokevirtual 67, 3) := by decide +kernel
theorem d_V_byteAt_23 : decode b_V_byteAt 23 = .ok (.l2i, 1) := by decide +kernel
theorem d_V_byteAt_24 : decode b_V_byteAt 24 = .ok (.goto 4, 3) := by decide +kernel
theorem d_V_byteAt_27 : decode b_V_byteAt 27 = .ok (.iconst (-1), 1) := by decide +kernel
theorem d_V_byteAt_28 : decode b_V_byteAt 28 = .ok (.ireturn, 1) := by decide +kernel
theorem d_V_fault_0 : decode b_V_fault 0 = .ok (.aload_n 0, 1) := by decide +kernel
theorem d_V_fault_1 : decode b_V_fault 1 = .ok (.getfield 41, 3) := by decide +kernel
theorem d_V_fault_4 : decode b_V_fault 4 = .ok (.invokevirtual 71, 3) := by decide +kernel
theorem d_V_fault_7 : decode b_V_fault 7 = .ok (.ireturn, 1) := by decide +kernel
theorem d_V_countItems_0 : decode b_V_countItems 0 = .ok (.iconst 0, 1) := by decide +kernel
theorem d_V_countItems_1 : decode b_V_countItems 1 = .ok (.istore_n 1, 1) := by decide +kernel
theorem d_V_countItems_2 : decode b_V_countItems 2 = .ok (.aload_n 0, 1) := by decide +kernel
theorem d_V_countItems_3 : decode b_V_countItems 3 = .ok (.getfield 32, 3) := by decide +kernel
theorem d_V_countItems_6 : decode b_V_countItems 6 = .ok (.aload_n 0, 1) := by decide +kernel
theorem d_V_countItems_7 : decode b_V_countItems 7 = .ok (.getfield 45, 3) := by decide +kernel
theorem d_V_countItems_10 : decode b_V_countItems 10 = .ok (.invokevirtual 130, 3) := by decide +kernel
theorem d_V_countItems_13 : decode b_V_countItems 13 = .ok (.iconst 0, 1) := by decide +kernel
theorem d_V_countItems_14 : decode b_V_countItems 14 = .ok (.istore_n 2, 1) := by decide +kernel
theorem d_V_countItems_15 : decode b_V_countItems 15 = .ok (.iload_n 2, 1) := by decide +kernel
theorem d_V_countItems_16 : decode b_V_countItems 16 = .ok (.ldc 139, 2) := by decide +kernel
theorem d_V_countItems_18 : decode b_V_countItems 18 = .ok (.if_icmp .ge 39, 3) := by decide +kernel
theorem d_V_countItems_21 : decode b_V_countItems 21 = .ok (.aload_n 0, 1) := by decide +kernel
theorem d_V_countItems_22 : decode b_V_countItems 22 = .ok (.getfield 32, 3) := by decide +kernel
theorem d_V_countItems_25 : decode b_V_countItems 25 = .ok (.invokevirtual 140, 3) := by decide +kernel
theorem d_V_countItems_28 : decode b_V_countItems 28 = .ok (.ifCond .eq 29, 3) := by decide +kernel
theorem d_V_countItems_31 : decode b_V_countItems 31 = .ok (.aload_n 0, 1) := by decide +kernel
theorem d_V_countItems_32 : decode b_V_countItems 32 = .ok (.getfield 32, 3) := by decide +kernel
theorem d_V_countItems_35 : decode b_V_countItems 35 = .ok (.invokevirtual 144, 3) := by decide +kernel
theorem d_V_countItems_38 : decode b_V_countItems 38 = .ok (.ifCond .eq 6, 3) := by decide +kernel
theorem d_V_countItems_41 : decode b_V_countItems 41 = .ok (.iinc 1 1, 3) := by decide +kernel
theorem d_V_countItems_44 : decode b_V_countItems 44 = .ok (.aload_n 0, 1) := by decide +kernel
theorem d_V_countItems_45 : decode b_V_countItems 45 = .ok (.getfield 32, 3) := by decide +kernel
theorem d_V_countItems_48 : decode b_V_countItems 48 = .ok (.invokevirtual 133, 3) := by decide +kernel
theorem d_V_countItems_51 : decode b_V_countItems 51 = .ok (.iinc 2 1, 3) := by decide +kernel
theorem d_V_countItems_54 : decode b_V_countItems 54 = .ok (.goto (-39), 3) := by decide +kernel
theorem d_V_countItems_57 : decode b_V_countItems 57 = .ok (.iload_n 1, 1) := by decide +kernel
theorem d_V_countItems_58 : decode b_V_countItems 58 = .ok (.ireturn, 1) := by decide +kernel
theorem d_V_lastBlock_0 : decode b_V_lastBlock 0 = .ok (.aload_n 0, 1) := by decide +kernel
theorem d_V_lastBlock_1 : decode b_V_lastBlock 1 = .ok (.getfield 23, 3) := by decide +kernel
theorem d_V_lastBlock_4 : decode b_V_lastBlock 4 = .ok (.aload_n 0, 1) := by decide +kernel
theorem d_V_lastBlock_5 : decode b_V_lastBlock 5 = .ok (.getfield 23, 3) := by decide +kernel
theorem d_V_lastBlock_8 : decode b_V_lastBlock 8 = .ok (.iload_n 1, 1) := by decide +kernel
theorem d_V_lastBlock_9 : decode b_V_lastBlock 9 = .ok (.invokevirtual 106, 3) := by decide +kernel
theorem d_V_lastBlock_12 : decode b_V_lastBlock 12 = .ok (.invokevirtual 149, 3) := by decide +kernel
theorem d_V_lastBlock_15 : decode b_V_lastBlock 15 = .ok (.istore_n 2, 1) := by decide +kernel
theorem d_V_lastBlock_16 : decode b_V_lastBlock 16 = .ok (.iload_n 2, 1) := by decide +kernel
theorem d_V_lastBlock_17 : decode b_V_lastBlock 17 = .ok (.ifCond .le 17, 3) := by decide +kernel
theorem d_V_lastBlock_20 : decode b_V_lastBlock 20 = .ok (.aload_n 0, 1) := by decide +kernel
theorem d_V_lastBlock_21 : decode b_V_lastBlock 21 = .ok (.getfield 23, 3) := by decide +kernel
theorem d_V_lastBlock_24 : decode b_V_lastBlock 24 = .ok (.iload_n 1, 1) := by decide +kernel
theorem d_V_lastBlock_25 : decode b_V_lastBlock 25 = .ok (.iload_n 2, 1) := by decide +kernel
theorem d_V_lastBlock_26 : decode b_V_lastBlock 26 = .ok (.iconst 1, 1) := by decide +kernel
theorem d_V_lastBlock_27 : decode b_V_lastBlock 27 = .ok (.isub, 1) := by decide +kernel
theorem d_V_lastBlock_28 : decode b_V_lastBlock 28 = .ok (.invokevirtual 124, 3) := by decide +kernel
theorem d_V_lastBlock_31 : decode b_V_lastBlock 31 = .ok (.goto 4, 3) := by decide +kernel
theorem d_V_lastBlock_34 : decode b_V_lastBlock 34 = .ok (.lconst 0, 1) := by decide +kernel
theorem d_V_lastBlock_35 : decode b_V_lastBlock 35 = .ok (.lreturn, 1) := by decide +kernel
