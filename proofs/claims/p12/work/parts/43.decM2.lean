theorem d_M_inodeAt_0 : decode b_M_inodeAt 0 = .ok (.sipush 1024, 3) := by decide +kernel
theorem d_M_inodeAt_3 : decode b_M_inodeAt 3 = .ok (.aload_n 0, 1) := by decide +kernel
theorem d_M_inodeAt_4 : decode b_M_inodeAt 4 = .ok (.getfield 14, 3) := by decide +kernel
theorem d_M_inodeAt_7 : decode b_M_inodeAt 7 = .ok (.iload_n 1, 1) := by decide +kernel
theorem d_M_inodeAt_8 : decode b_M_inodeAt 8 = .ok (.iconst 1, 1) := by decide +kernel
theorem d_M_inodeAt_9 : decode b_M_inodeAt 9 = .ok (.isub, 1) := by decide +kernel
theorem d_M_inodeAt_10 : decode b_M_inodeAt 10 = .ok (.aload_n 0, 1) := by decide +kernel
theorem d_M_inodeAt_11 : decode b_M_inodeAt 11 = .ok (.getfield 93, 3) := by decide +kernel
theorem d_M_inodeAt_14 : decode b_M_inodeAt 14 = .ok (.idiv, 1) := by decide +kernel
theorem d_M_inodeAt_15 : decode b_M_inodeAt 15 = .ok (.iaload, 1) := by decide +kernel
theorem d_M_inodeAt_16 : decode b_M_inodeAt 16 = .ok (.iconst 2, 1) := by decide +kernel
theorem d_M_inodeAt_17 : decode b_M_inodeAt 17 = .ok (.iadd, 1) := by decide +kernel
theorem d_M_inodeAt_18 : decode b_M_inodeAt 18 = .ok (.imul, 1) := by decide +kernel
theorem d_M_inodeAt_19 : decode b_M_inodeAt 19 = .ok (.sipush 128, 3) := by decide +kernel
theorem d_M_inodeAt_22 : decode b_M_inodeAt 22 = .ok (.iload_n 1, 1) := by decide +kernel
theorem d_M_inodeAt_23 : decode b_M_inodeAt 23 = .ok (.iconst 1, 1) := by decide +kernel
theorem d_M_inodeAt_24 : decode b_M_inodeAt 24 = .ok (.isub, 1) := by decide +kernel
theorem d_M_inodeAt_25 : decode b_M_inodeAt 25 = .ok (.aload_n 0, 1) := by decide +kernel
theorem d_M_inodeAt_26 : decode b_M_inodeAt 26 = .ok (.getfield 93, 3) := by decide +kernel
theorem d_M_inodeAt_29 : decode b_M_inodeAt 29 = .ok (.irem, 1) := by decide +kernel
theorem d_M_inodeAt_30 : decode b_M_inodeAt 30 = .ok (.imul, 1) := by decide +kernel
theorem d_M_inodeAt_31 : decode b_M_inodeAt 31 = .ok (.iadd, 1) := by decide +kernel
theorem d_M_inodeAt_32 : decode b_M_inodeAt 32 = .ok (.ireturn, 1) := by decide +kernel
theorem d_M_bit_0 : decode b_M_bit 0 = .ok (.aload_n 0, 1) := by decide +kernel
theorem d_M_bit_1 : decode b_M_bit 1 = .ok (.sipush 1024, 3) := by decide +kernel
theorem d_M_bit_4 : decode b_M_bit 4 = .ok (.iload_n 1, 1) := by decide +kernel
theorem d_M_bit_5 : decode b_M_bit 5 = .ok (.imul, 1) := by decide +kernel
theorem d_M_bit_6 : decode b_M_bit 6 = .ok (.iload_n 2, 1) := by decide +kernel
theorem d_M_bit_7 : decode b_M_bit 7 = .ok (.bipush 8, 2) := by decide +kernel
theorem d_M_bit_9 : decode b_M_bit 9 = .ok (.idiv, 1) := by decide +kernel
theorem d_M_bit_10 : decode b_M_bit 10 = .ok (.iadd, 1) := by decide +kernel
theorem d_M_bit_11 : decode b_M_bit 11 = .ok (.invokevirtual 47, 3) := by decide +kernel
theorem d_M_bit_14 : decode b_M_bit 14 = .ok (.iload_n 2, 1) := by decide +kernel
theorem d_M_bit_15 : decode b_M_bit 15 = .ok (.bipush 8, 2) := by decide +kernel
theorem d_M_bit_17 : decode b_M_bit 17 = .ok (.irem, 1) := by decide +kernel
theorem d_M_bit_18 : decode b_M_bit 18 = .ok (.ishr, 1) := by decide +kernel
theorem d_M_bit_19 : decode b_M_bit 19 = .ok (.iconst 1, 1) := by decide +kernel
theorem d_M_bit_20 : decode b_M_bit 20 = .ok (.iand, 1) := by decide +kernel
theorem d_M_bit_21 : decode b_M_bit 21 = .ok (.iconst 1, 1) := by decide +kernel
theorem d_M_bit_22 : decode b_M_bit 22 = .ok (.if_icmp .ne 7, 3) := by decide +kernel
theorem d_M_bit_25 : decode b_M_bit 25 = .ok (.iconst 1, 1) := by decide +kernel
theorem d_M_bit_26 : decode b_M_bit 26 = .ok (.goto 4, 3) := by decide +kernel
theorem d_M_bit_29 : decode b_M_bit 29 = .ok (.iconst 0, 1) := by decide +kernel
theorem d_M_bit_30 : decode b_M_bit 30 = .ok (.ireturn, 1) := by decide +kernel
theorem d_M_isUsed_0 : decode b_M_isUsed 0 = .ok (.aload_n 0, 1) := by decide +kernel
theorem d_M_isUsed_1 : decode b_M_isUsed 1 = .ok (.aload_n 0, 1) := by decide +kernel
theorem d_M_isUsed_2 : decode b_M_isUsed 2 = .ok (.getfield 14, 3) := by decide +kernel
theorem d_M_isUsed_5 : decode b_M_isUsed 5 = .ok (.iload_n 1, 1) := by decide +kernel
theorem d_M_isUsed_6 : decode b_M_isUsed 6 = .ok (.iconst 1, 1) := by decide +kernel
theorem d_M_isUsed_7 : decode b_M_isUsed 7 = .ok (.isub, 1) := by decide +kernel
theorem d_M_isUsed_8 : decode b_M_isUsed 8 = .ok (.aload_n 0, 1) := by decide +kernel
theorem d_M_isUsed_9 : decode b_M_isUsed 9 = .ok (.getfield 93, 3) := by decide +kernel
theorem d_M_isUsed_12 : decode b_M_isUsed 12 = .ok (.idiv, 1) := by decide +kernel
theorem d_M_isUsed_13 : decode b_M_isUsed 13 = .ok (.iaload, 1) := by decide +kernel
theorem d_M_isUsed_14 : decode b_M_isUsed 14 = .ok (.iconst 1, 1) := by decide +kernel
theorem d_M_isUsed_15 : decode b_M_isUsed 15 = .ok (.iadd, 1) := by decide +kernel
theorem d_M_isUsed_16 : decode b_M_isUsed 16 = .ok (.iload_n 1, 1) := by decide +kernel
theorem d_M_isUsed_17 : decode b_M_isUsed 17 = .ok (.iconst 1, 1) := by decide +kernel
theorem d_M_isUsed_18 : decode b_M_isUsed 18 = .ok (.isub, 1) := by decide +kernel
theorem d_M_isUsed_19 : decode b_M_isUsed 19 = .ok (.aload_n 0, 1) := by decide +kernel
theorem d_M_isUsed_20 : decode b_M_isUsed 20 = .ok (.getfield 93, 3) := by decide +kernel
theorem d_M_isUsed_23 : decode b_M_isUsed 23 = .ok (.irem, 1) := by decide +kernel
theorem d_M_isUsed_24 : decode b_M_isUsed 24 = .ok (.invokevirtual 111, 3) := by decide +kernel
theorem d_M_isUsed_27 : decode b_M_isUsed 27 = .ok (.ireturn, 1) := by decide +kernel
theorem d_M_typeOf_0 : decode b_M_typeOf 0 = .ok (.aload_n 0, 1) := by decide +kernel
theorem d_M_typeOf_1 : decode b_M_typeOf 1 = .ok (.aload_n 0, 1) := by decide +kernel
theorem d_M_typeOf_2 : decode b_M_typeOf 2 = .ok (.iload_n 1, 1) := by decide +kernel
theorem d_M_typeOf_3 : decode b_M_typeOf 3 = .ok (.invokevirtual 115, 3) := by decide +kernel
theorem d_M_typeOf_6 : decode b_M_typeOf 6 = .ok (.invokevirtual 51, 3) := by decide +kernel
theorem d_M_typeOf_9 : decode b_M_typeOf 9 = .ok (.ldc 118, 2) := by decide +kernel
theorem d_M_typeOf_11 : decode b_M_typeOf 11 = .ok (.iand, 1) := by decide +kernel
theorem d_M_typeOf_12 : decode b_M_typeOf 12 = .ok (.ireturn, 1) := by decide +kernel
theorem d_M_sizeOfInode_0 : decode b_M_sizeOfInode 0 = .ok (.aload_n 0, 1) := by decide +kernel
theorem d_M_sizeOfInode_1 : decode b_M_sizeOfInode 1 = .ok (.aload_n 0, 1) := by decide +kernel
theorem d_M_sizeOfInode_2 : decode b_M_sizeOfInode 2 = .ok (.iload_n 1, 1) := by decide +kernel
theorem d_M_sizeOfInode_3 : decode b_M_sizeOfInode 3 = .ok (.invokevirtual 115, 3) := by decide +kernel
theorem d_M_sizeOfInode_6 : decode b_M_sizeOfInode 6 = .ok (.iconst 4, 1) := by decide +kernel
theorem d_M_sizeOfInode_7 : decode b_M_sizeOfInode 7 = .ok (.iadd, 1) := by decide +kernel
theorem d_M_sizeOfInode_8 : decode b_M_sizeOfInode 8 = .ok (.invokevirtual 79, 3) := by decide +kernel
theorem d_M_sizeOfInode_11 : decode b_M_sizeOfInode 11 = .ok (.lreturn, 1) := by decide +kernel
theorem d_M_pointer_0 : decode b_M_pointer 0 = .ok (.aload_n 0, 1) := by decide +kernel
theorem d_M_pointer_1 : decode b_M_pointer 1 = .ok (.aload_n 0, 1) := by decide +kernel
theorem d_M_pointer_2 : decode b_M_pointer 2 = .ok (.iload_n 1, 1) := by decide +kernel
theorem d_M_pointer_3 : decode b_M_pointer 3 = .ok (.invokevirtual 115, 3) := by decide +kernel
theorem d_M_pointer_6 : decode b_M_pointer 6 = .ok (.bipush 40, 2) := by decide +kernel
theorem d_M_pointer_8 : decode b_M_pointer 8 = .ok (.iadd, 1) := by decide +kernel
theorem d_M_pointer_9 : decode b_M_pointer 9 = .ok (.iconst 4, 1) := by decide +kernel
theorem d_M_pointer_10 : decode b_M_pointer 10 = .ok (.iload_n 2, 1) := by decide +kernel
theorem d_M_pointer_11 : decode b_M_pointer 11 = .ok (.imul, 1) := by decide +kernel
theorem d_M_pointer_12 : decode b_M_pointer 12 = .ok (.iadd, 1) := by decide +kernel
theorem d_M_pointer_13 : decode b_M_pointer 13 = .ok (.invokevirtual 79, 3) := by decide +kernel
theorem d_M_pointer_16 : decode b_M_pointer 16 = .ok (.lreturn, 1) := by decide +kernel
theorem d_M_parts_0 : decode b_M_parts 0 = .ok (.iload_n 0, 1) := by decide +kernel
theorem d_M_parts_1 : decode b_M_parts 1 = .ok (.iload_n 1, 1) := by decide +kernel
theorem d_M_parts_2 : decode b_M_parts 2 = .ok (.iadd, 1) := by decide +kernel
theorem d_M_parts_3 : decode b_M_parts 3 = .ok (.iconst 1, 1) := by decide +kernel
theorem d_M_parts_4 : decode b_M_parts 4 = .ok (.isub, 1) := by decide +kernel
theorem d_M_parts_5 : decode b_M_parts 5 = .ok (.iload_n 1, 1) := by decide +kernel
theorem d_M_parts_6 : decode b_M_parts 6 = .ok (.idiv, 1) := by decide +kernel
theorem d_M_parts_7 : decode b_M_parts 7 = .ok (.ireturn, 1) := by decide +kernel
theorem d_M_takes_0 : decode b_M_takes 0 = .ok (.lload_n 1, 1) := by decide +kernel
theorem d_M_takes_1 : decode b_M_takes 1 = .ok (.lconst 1, 1) := by decide +kernel
theorem d_M_takes_2 : decode b_M_takes 2 = .ok (.lcmp, 1) := by decide +kernel
theorem d_M_takes_3 : decode b_M_takes 3 = .ok (.ifCond .lt 33, 3) := by decide +kernel
theorem d_M_takes_6 : decode b_M_takes 6 = .ok (.lload_n 1, 1) := by decide +kernel
theorem d_M_takes_7 : decode b_M_takes 7 = .ok (.aload_n 0, 1) := by decide +kernel
theorem d_M_takes_8 : decode b_M_takes 8 = .ok (.getfield 41, 3) := by decide +kernel
theorem d_M_takes_11 : decode b_M_takes 11 = .ok (.i2l, 1) := by decide +kernel
theorem d_M_takes_12 : decode b_M_takes 12 = .ok (.lcmp, 1) := by decide +kernel
theorem d_M_takes_13 : decode b_M_takes 13 = .ok (.ifCond .ge 23, 3) := by decide +kernel
theorem d_M_takes_16 : decode b_M_takes 16 = .ok (.aload_n 0, 1) := by decide +kernel
theorem d_M_takes_17 : decode b_M_takes 17 = .ok (.getfield 18, 3) := by decide +kernel
theorem d_M_takes_20 : decode b_M_takes 20 = .ok (.lload_n 1, 1) := by decide +kernel
theorem d_M_takes_21 : decode b_M_takes 21 = .ok (.l2i, 1) := by decide +kernel
theorem d_M_takes_22 : decode b_M_takes 22 = .ok (.baload, 1) := by decide +kernel
theorem d_M_takes_23 : decode b_M_takes 23 = .ok (.ifCond .ne 13, 3) := by decide +kernel
theorem d_M_takes_26 : decode b_M_takes 26 = .ok (.aload_n 0, 1) := by decide +kernel
theorem d_M_takes_27 : decode b_M_takes 27 = .ok (.getfield 22, 3) := by decide +kernel
theorem d_M_takes_30 : decode b_M_takes 30 = .ok (.lload_n 1, 1) := by decide +kernel
theorem d_M_takes_31 : decode b_M_takes 31 = .ok (.l2i, 1) := by decide +kernel
theorem d_M_takes_32 : decode b_M_takes 32 = .ok (.baload, 1) := by decide +kernel
theorem d_M_takes_33 : decode b_M_takes 33 = .ok (.ifCond .eq 5, 3) := by decide +kernel
theorem d_M_takes_36 : decode b_M_takes 36 = .ok (.iconst 0, 1) := by decide +kernel
theorem d_M_takes_37 : decode b_M_takes 37 = .ok (.ireturn, 1) := by decide +kernel
theorem d_M_takes_38 : decode b_M_takes 38 = .ok (.aload_n 0, 1) := by decide +kernel
theorem d_M_takes_39 : decode b_M_takes 39 = .ok (.getfield 22, 3) := by decide +kernel
theorem d_M_takes_42 : decode b_M_takes 42 = .ok (.lload_n 1, 1) := by decide +kernel
theorem d_M_takes_43 : decode b_M_takes 43 = .ok (.l2i, 1) := by decide +kernel
theorem d_M_takes_44 : decode b_M_takes 44 = .ok (.iconst 1, 1) := by decide +kernel
theorem d_M_takes_45 : decode b_M_takes 45 = .ok (.bastore, 1) := by decide +kernel
theorem d_M_takes_46 : decode b_M_takes 46 = .ok (.iconst 1, 1) := by decide +kernel
theorem d_M_takes_47 : decode b_M_takes 47 = .ok (.ireturn, 1) := by decide +kernel
theorem d_M_blockOf_0 : decode b_M_blockOf 0 = .ok (.iload_n 2, 1) := by decide +kernel
theorem d_M_blockOf_1 : decode b_M_blockOf 1 = .ok (.bipush 12, 2) := by decide +kernel
theorem d_M_blockOf_3 : decode b_M_blockOf 3 = .ok (.if_icmp .ge 10, 3) := by decide +kernel
theorem d_M_blockOf_6 : decode b_M_blockOf 6 = .ok (.aload_n 0, 1) := by decide +kernel
theorem d_M_blockOf_7 : decode b_M_blockOf 7 = .ok (.iload_n 1, 1) := by decide +kernel
theorem d_M_blockOf_8 : decode b_M_blockOf 8 = .ok (.iload_n 2, 1) := by decide +kernel
theorem d_M_blockOf_9 : decode b_M_blockOf 9 = .ok (.invokevirtual 119, 3) := by decide +kernel
theorem d_M_blockOf_12 : decode b_M_blockOf 12 = .ok (.lreturn, 1) := by decide +kernel
theorem d_M_blockOf_13 : decode b_M_blockOf 13 = .ok (.iload_n 2, 1) := by decide +kernel
theorem d_M_blockOf_14 : decode b_M_blockOf 14 = .ok (.sipush 268, 3) := by decide +kernel
theorem d_M_blockOf_17 : decode b_M_blockOf 17 = .ok (.if_icmp .ge 27, 3) := by decide +kernel
theorem d_M_blockOf_20 : decode b_M_blockOf 20 = .ok (.aload_n 0, 1) := by decide +kernel
theorem d_M_blockOf_21 : decode b_M_blockOf 21 = .ok (.sipush 1024, 3) := by decide +kernel
theorem d_M_blockOf_24 : decode b_M_blockOf 24 = .ok (.aload_n 0, 1) := by decide +kernel
theorem d_M_blockOf_25 : decode b_M_blockOf 25 = .ok (.iload_n 1, 1) := by decide +kernel
theorem d_M_blockOf_26 : decode b_M_blockOf 26 = .ok (.bipush 12, 2) := by decide +kernel
theorem d_M_blockOf_28 : decode b_M_blockOf 28 = .ok (.invokevirtual 119, 3) := by decide +kernel
theorem d_M_blockOf_31 : decode b_M_blockOf 31 = .ok (.l2i, 1) := by decide +kernel
theorem d_M_blockOf_32 : decode b_M_blockOf 32 = .ok (.imul, 1) := by decide +kernel
theorem d_M_blockOf_33 : decode b_M_blockOf 33 = .ok (.iconst 4, 1) := by decide +kernel
theorem d_M_blockOf_34 : decode b_M_blockOf 34 = .ok (.iload_n 2, 1) := by decide +kernel
theorem d_M_blockOf_35 : decode b_M_blockOf 35 = .ok (.bipush 12, 2) := by decide +kernel
theorem d_M_blockOf_37 : decode b_M_blockOf 37 = .ok (.isub, 1) := by decide +kernel
theorem d_M_blockOf_38 : decode b_M_blockOf 38 = .ok (.imul, 1) := by decide +kernel
theorem d_M_blockOf_39 : decode b_M_blockOf 39 = .ok (.iadd, 1) := by decide +kernel
theorem d_M_blockOf_40 : decode b_M_blockOf 40 = .ok (.invokevirtual 79, 3) := by decide +kernel
theorem d_M_blockOf_43 : decode b_M_blockOf 43 = .ok (.lreturn, 1) := by decide +kernel
theorem d_M_blockOf_44 : decode b_M_blockOf 44 = .ok (.aload_n 0, 1) := by decide +kernel
theorem d_M_blockOf_45 : decode b_M_blockOf 45 = .ok (.sipush 1024, 3) := by decide +kernel
theorem d_M_blockOf_48 : decode b_M_blockOf 48 = .ok (.aload_n 0, 1) := by decide +kernel
theorem d_M_blockOf_49 : decode b_M_blockOf 49 = .ok (.iload_n 1, 1) := by decide +kernel
theorem d_M_blockOf_50 : decode b_M_blockOf 50 = .ok (.bipush 13, 2) := by decide +kernel
theorem d_M_blockOf_52 : decode b_M_blockOf 52 = .ok (.invokevirtual 119, 3) := by decide +kernel
theorem d_M_blockOf_55 : decode b_M_blockOf 55 = .ok (.l2i, 1) := by decide +kernel
theorem d_M_blockOf_56 : decode b_M_blockOf 56 = .ok (.imul, 1) := by decide +kernel
theorem d_M_blockOf_57 : decode b_M_blockOf 57 = .ok (.iconst 4, 1) := by decide +kernel
theorem d_M_blockOf_58 : decode b_M_blockOf 58 = .ok (.iload_n 2, 1) := by decide +kernel
theorem d_M_blockOf_59 : decode b_M_blockOf 59 = .ok (.sipush 268, 3) := by decide +kernel
theorem d_M_blockOf_62 : decode b_M_blockOf 62 = .ok (.isub, 1) := by decide +kernel
theorem d_M_blockOf_63 : decode b_M_blockOf 63 = .ok (.sipush 256, 3) := by decide +kernel
theorem d_M_blockOf_66 : decode b_M_blockOf 66 = .ok (.idiv, 1) := by decide +kernel
theorem d_M_blockOf_67 : decode b_M_blockOf 67 = .ok (.imul, 1) := by decide +kernel
theorem d_M_blockOf_68 : decode b_M_blockOf 68 = .ok (.iadd, 1) := by decide +kernel
theorem d_M_blockOf_69 : decode b_M_blockOf 69 = .ok (.invokevirtual 79, 3) := by decide +kernel
theorem d_M_blockOf_72 : decode b_M_blockOf 72 = .ok (.l2i, 1) := by decide +kernel
theorem d_M_blockOf_73 : decode b_M_blockOf 73 = .ok (.istore_n 3, 1) := by decide +kernel
theorem d_M_blockOf_74 : decode b_M_blockOf 74 = .ok (.aload_n 0, 1) := by decide +kernel
theorem d_M_blockOf_75 : decode b_M_blockOf 75 = .ok (.sipush 1024, 3) := by decide +kernel
theorem d_M_blockOf_78 : decode b_M_blockOf 78 = .ok (.iload_n 3, 1) := by decide +kernel
theorem d_M_blockOf_79 : decode b_M_blockOf 79 = .ok (.imul, 1) := by decide +kernel
theorem d_M_blockOf_80 : decode b_M_blockOf 80 = .ok (.iconst 4, 1) := by decide +kernel
theorem d_M_blockOf_81 : decode b_M_blockOf 81 = .ok (.iload_n 2, 1) := by decide +kernel
theorem d_M_blockOf_82 : decode b_M_blockOf 82 = .ok (.sipush 268, 3) := by decide +kernel
theorem d_M_blockOf_85 : decode b_M_blockOf 85 = .ok (.isub, 1) := by decide +kernel
theorem d_M_blockOf_86 : decode b_M_blockOf 86 = .ok (.sipush 256, 3) := by decide +kernel
theorem d_M_blockOf_89 : decode b_M_blockOf 89 = .ok (.irem, 1) := by decide +kernel
theorem d_M_blockOf_90 : decode b_M_blockOf 90 = .ok (.imul, 1) := by decide +kernel
theorem d_M_blockOf_91 : decode b_M_blockOf 91 = .ok (.iadd, 1) := by decide +kernel
theorem d_M_blockOf_92 : decode b_M_blockOf 92 = .ok (.invokevirtual 79, 3) := by decide +kernel
theorem d_M_blockOf_95 : decode b_M_blockOf 95 = .ok (.lreturn, 1) := by decide +kernel
theorem d_M_isWhole_0 : decode b_M_isWhole 0 = .ok (.aload_n 0, 1) := by decide +kernel
theorem d_M_isWhole_1 : decode b_M_isWhole 1 = .ok (.iload_n 1, 1) := by decide +kernel
theorem d_M_isWhole_2 : decode b_M_isWhole 2 = .ok (.invokevirtual 123, 3) := by decide +kernel
theorem d_M_isWhole_5 : decode b_M_isWhole 5 = .ok (.ldc2_w 56, 3) := by decide +kernel
theorem d_M_isWhole_8 : decode b_M_isWhole 8 = .ok (.aload_n 0, 1) := by decide +kernel
theorem d_M_isWhole_9 : decode b_M_isWhole 9 = .ok (.getfield 41, 3) := by decide +kernel
theorem d_M_isWhole_12 : decode b_M_isWhole 12 = .ok (.i2l, 1) := by decide +kernel
theorem d_M_isWhole_13 : decode b_M_isWhole 13 = .ok (.lmul, 1) := by decide +kernel
theorem d_M_isWhole_14 : decode b_M_isWhole 14 = .ok (.lcmp, 1) := by decide +kernel
theorem d_M_isWhole_15 : decode b_M_isWhole 15 = .ok (.ifCond .le 5, 3) := by decide +kernel
theorem d_M_isWhole_18 : decode b_M_isWhole 18 = .ok (.iconst 0, 1) := by decide +kernel
theorem d_M_isWhole_19 : decode b_M_isWhole 19 = .ok (.ireturn, 1) := by decide +kernel
theorem d_M_isWhole_20 : decode b_M_isWhole 20 = .ok (.aload_n 0, 1) := by decide +kernel
theorem d_M_isWhole_21 : decode b_M_isWhole 21 = .ok (.iload_n 1, 1) := by decide +kernel
theorem d_M_isWhole_22 : decode b_M_isWhole 22 = .ok (.invokevirtual 123, 3) := by decide +kernel
theorem d_M_isWhole_25 : decode b_M_isWhole 25 = .ok (.l2i, 1) := by decide +kernel
theorem d_M_isWhole_26 : decode b_M_isWhole 26 = .ok (.sipush 1024, 3) := by decide +kernel
theorem d_M_isWhole_29 : decode b_M_isWhole 29 = .ok (.invokestatic 126, 3) := by decide +kernel
theorem d_M_isWhole_32 : decode b_M_isWhole 32 = .ok (.istore_n 2, 1) := by decide +kernel
theorem d_M_isWhole_33 : decode b_M_isWhole 33 = .ok (.iload_n 2, 1) := by decide +kernel
theorem d_M_isWhole_34 : decode b_M_isWhole 34 = .ok (.sipush 268, 3) := by decide +kernel
theorem d_M_isWhole_37 : decode b_M_isWhole 37 = .ok (.if_icmp .le 17, 3) := by decide +kernel
theorem d_M_isWhole_40 : decode b_M_isWhole 40 = .ok (.iload_n 2, 1) := by decide +kernel
theorem d_M_isWhole_41 : decode b_M_isWhole 41 = .ok (.sipush 268, 3) := by decide +kernel
theorem d_M_isWhole_44 : decode b_M_isWhole 44 = .ok (.isub, 1) := by decide +kernel
theorem d_M_isWhole_45 : decode b_M_isWhole 45 = .ok (.sipush 256, 3) := by decide +kernel
theorem d_M_isWhole_48 : decode b_M_isWhole 48 = .ok (.invokestatic 126, 3) := by decide +kernel
theorem d_M_isWhole_51 : decode b_M_isWhole 51 = .ok (.goto 4, 3) := by decide +kernel
theorem d_M_isWhole_54 : decode b_M_isWhole 54 = .ok (.iconst 0, 1) := by decide +kernel
theorem d_M_isWhole_55 : decode b_M_isWhole 55 = .ok (.istore_n 3, 1) := by decide +kernel
theorem d_M_isWhole_56 : decode b_M_isWhole 56 = .ok (.iload_n 2, 1) := by decide +kernel
theorem d_M_isWhole_57 : decode b_M_isWhole 57 = .ok (.bipush 12, 2) := by decide +kernel
theorem d_M_isWhole_59 : decode b_M_isWhole 59 = .ok (.if_icmp .le 7, 3) := by decide +kernel
theorem d_M_isWhole_62 : decode b_M_isWhole 62 = .ok (.iconst 1, 1) := by decide +kernel
theorem d_M_isWhole_63 : decode b_M_isWhole 63 = .ok (.goto 4, 3) := by decide +kernel
theorem d_M_isWhole_66 : decode b_M_isWhole 66 = .ok (.iconst 0, 1) := by decide +kernel
theorem d_M_isWhole_67 : decode b_M_isWhole 67 = .ok (.iload_n 2, 1) := by decide +kernel
theorem d_M_isWhole_68 : decode b_M_isWhole 68 = .ok (.sipush 268, 3) := by decide +kernel
theorem d_M_isWhole_71 : decode b_M_isWhole 71 = .ok (.if_icmp .le 7, 3) := by decide +kernel
theorem d_M_isWhole_74 : decode b_M_isWhole 74 = .ok (.iconst 1, 1) := by decide +kernel
theorem d_M_isWhole_75 : decode b_M_isWhole 75 = .ok (.goto 4, 3) := by decide +kernel
theorem d_M_isWhole_78 : decode b_M_isWhole 78 = .ok (.iconst 0, 1) := by decide +kernel
theorem d_M_isWhole_79 : decode b_M_isWhole 79 = .ok (.iadd, 1) := by decide +kernel
theorem d_M_isWhole_80 : decode b_M_isWhole 80 = .ok (.iload_n 3, 1) := by decide +kernel
theorem d_M_isWhole_81 : decode b_M_isWhole 81 = .ok (.iadd, 1) := by decide +kernel
theorem d_M_isWhole_82 : decode b_M_isWhole 82 = .ok (.istore 4, 2) := by decide +kernel
theorem d_M_isWhole_84 : decode b_M_isWhole 84 = .ok (.aload_n 0, 1) := by decide +kernel
theorem d_M_isWhole_85 : decode b_M_isWhole 85 = .ok (.aload_n 0, 1) := by decide +kernel
theorem d_M_isWhole_86 : decode b_M_isWhole 86 = .ok (.iload_n 1, 1) := by decide +kernel
theorem d_M_isWhole_87 : decode b_M_isWhole 87 = .ok (.invokevirtual 115, 3) := by decide +kernel
theorem d_M_isWhole_90 : decode b_M_isWhole 90 = .ok (.bipush 28, 2) := by decide +kernel
theorem d_M_isWhole_92 : decode b_M_isWhole 92 = .ok (.iadd, 1) := by decide +kernel
theorem d_M_isWhole_93 : decode b_M_isWhole 93 = .ok (.invokevirtual 79, 3) := by decide +kernel
theorem d_M_isWhole_96 : decode b_M_isWhole 96 = .ok (.ldc2_w 102, 3) := by decide +kernel
theorem d_M_isWhole_99 : decode b_M_isWhole 99 = .ok (.iload_n 2, 1) := by decide +kernel
theorem d_M_isWhole_100 : decode b_M_isWhole 100 = .ok (.iload 4, 2) := by decide +kernel
theorem d_M_isWhole_102 : decode b_M_isWhole 102 = .ok (.iadd, 1) := by decide +kernel
theorem d_M_isWhole_103 : decode b_M_isWhole 103 = .ok (.i2l, 1) := by decide +kernel
theorem d_M_isWhole_104 : decode b_M_isWhole 104 = .ok (.lmul, 1) := by decide +kernel
theorem d_M_isWhole_105 : decode b_M_isWhole 105 = .ok (.lcmp, 1) := by decide +kernel
theorem d_M_isWhole_106 : decode b_M_isWhole 106 = .ok (.ifCond .ne 19, 3) := by decide +kernel
theorem d_M_isWhole_109 : decode b_M_isWhole 109 = .ok (.aload_n 0, 1) := by decide +kernel
theorem d_M_isWhole_110 : decode b_M_isWhole 110 = .ok (.iload_n 1, 1) := by decide +kernel
theorem d_M_isWhole_111 : decode b_M_isWhole 111 = .ok (.bipush 14, 2) := by decide +kernel
theorem d_M_isWhole_113 : decode b_M_isWhole 113 = .ok (.invokevirtual 119, 3) := by decide +kernel
theorem d_M_isWhole_116 : decode b_M_isWhole 116 = .ok (.lconst 0, 1) := by decide +kernel
theorem d_M_isWhole_117 : decode b_M_isWhole 117 = .ok (.lcmp, 1) := by decide +kernel
theorem d_M_isWhole_118 : decode b_M_isWhole 118 = .ok (.ifCond .ne 7, 3) := by decide +kernel
theorem d_M_isWhole_121 : decode b_M_isWhole 121 = .ok (.iconst 1, 1) := by decide +kernel
theorem d_M_isWhole_122 : decode b_M_isWhole 122 = .ok (.goto 4, 3) := by decide +kernel
theorem d_M_isWhole_125 : decode b_M_isWhole 125 = .ok (.iconst 0, 1) := by decide +kernel
theorem d_M_isWhole_126 : decode b_M_isWhole 126 = .ok (.istore 5, 2) := by decide +kernel
theorem d_M_isWhole_128 : decode b_M_isWhole 128 = .ok (.iload_n 2, 1) := by decide +kernel
theorem d_M_isWhole_129 : decode b_M_isWhole 129 = .ok (.istore 6, 2) := by decide +kernel
theorem d_M_isWhole_131 : decode b_M_isWhole 131 = .ok (.iload 6, 2) := by decide +kernel
theorem d_M_isWhole_133 : decode b_M_isWhole 133 = .ok (.bipush 12, 2) := by decide +kernel
theorem d_M_isWhole_135 : decode b_M_isWhole 135 = .ok (.if_icmp .ge 33, 3) := by decide +kernel
theorem d_M_isWhole_138 : decode b_M_isWhole 138 = .ok (.iload 5, 2) := by decide +kernel
theorem d_M_isWhole_140 : decode b_M_isWhole 140 = .ok (.ifCond .eq 19, 3) := by decide +kernel
theorem d_M_isWhole_143 : decode b_M_isWhole 143 = .ok (.aload_n 0, 1) := by decide +kernel
theorem d_M_isWhole_144 : decode b_M_isWhole 144 = .ok (.iload_n 1, 1) := by decide +kernel
theorem d_M_isWhole_145 : decode b_M_isWhole 145 = .ok (.iload 6, 2) := by decide +kernel
theorem d_M_isWhole_147 : decode b_M_isWhole 147 = .ok (.invokevirtual 119, 3) := by decide +kernel
theorem d_M_isWhole_150 : decode b_M_isWhole 150 = .ok (.lconst 0, 1) := by decide +kernel
theorem d_M_isWhole_151 : decode b_M_isWhole 151 = .ok (.lcmp, 1) := by decide +kernel
theorem d_M_isWhole_152 : decode b_M_isWhole 152 = .ok (.ifCond .ne 7, 3) := by decide +kernel
theorem d_M_isWhole_155 : decode b_M_isWhole 155 = .ok (.iconst 1, 1) := by decide +kernel
theorem d_M_isWhole_156 : decode b_M_isWhole 156 = .ok (.goto 4, 3) := by decide +kernel
theorem d_M_isWhole_159 : decode b_M_isWhole 159 = .ok (.iconst 0, 1) := by decide +kernel
theorem d_M_isWhole_160 : decode b_M_isWhole 160 = .ok (.istore 5, 2) := by decide +kernel
theorem d_M_isWhole_162 : decode b_M_isWhole 162 = .ok (.iinc 6 1, 3) := by decide +kernel
theorem d_M_isWhole_165 : decode b_M_isWhole 165 = .ok (.goto (-34), 3) := by decide +kernel
theorem d_M_isWhole_168 : decode b_M_isWhole 168 = .ok (.iload 5, 2) := by decide +kernel
theorem d_M_isWhole_170 : decode b_M_isWhole 170 = .ok (.ifCond .eq 42, 3) := by decide +kernel
theorem d_M_isWhole_173 : decode b_M_isWhole 173 = .ok (.iload_n 2, 1) := by decide +kernel
theorem d_M_isWhole_174 : decode b_M_isWhole 174 = .ok (.bipush 12, 2) := by decide +kernel
theorem d_M_isWhole_176 : decode b_M_isWhole 176 = .ok (.if_icmp .le 20, 3) := by decide +kernel
theorem d_M_isWhole_179 : decode b_M_isWhole 179 = .ok (.aload_n 0, 1) := by decide +kernel
theorem d_M_isWhole_180 : decode b_M_isWhole 180 = .ok (.aload_n 0, 1) := by decide +kernel
theorem d_M_isWhole_181 : decode b_M_isWhole 181 = .ok (.iload_n 1, 1) := by decide +kernel
theorem d_M_isWhole_182 : decode b_M_isWhole 182 = .ok (.bipush 12, 2) := by decide +kernel
theorem d_M_isWhole_184 : decode b_M_isWhole 184 = .ok (.invokevirtual 119, 3) := by decide +kernel
theorem d_M_isWhole_187 : decode b_M_isWhole 187 = .ok (.invokevirtual 130, 3) := by decide +kernel
theorem d_M_isWhole_190 : decode b_M_isWhole 190 = .ok (.ifCond .eq 22, 3) := by decide +kernel
theorem d_M_isWhole_193 : decode b_M_isWhole 193 = .ok (.goto 15, 3) := by decide +kernel
theorem d_M_isWhole_196 : decode b_M_isWhole 196 = .ok (.aload_n 0, 1) := by decide +kernel
theorem d_M_isWhole_197 : decode b_M_isWhole 197 = .ok (.iload_n 1, 1) := by decide +kernel
theorem d_M_isWhole_198 : decode b_M_isWhole 198 = .ok (.bipush 12, 2) := by decide +kernel
theorem d_M_isWhole_200 : decode b_M_isWhole 200 = .ok (.invokevirtual 119, 3) := by decide +kernel
theorem d_M_isWhole_203 : decode b_M_isWhole 203 = .ok (.lconst 0, 1) := by decide +kernel
theorem d_M_isWhole_204 : decode b_M_isWhole 204 = .ok (.lcmp, 1) := by decide +kernel
theorem d_M_isWhole_205 : decode b_M_isWhole 205 = .ok (.ifCond .ne 7, 3) := by decide +kernel
theorem d_M_isWhole_208 : decode b_M_isWhole 208 = .ok (.iconst 1, 1) := by decide +kernel
theorem d_M_isWhole_209 : decode b_M_isWhole 209 = .ok (.goto 4, 3) := by decide +kernel
theorem d_M_isWhole_212 : decode b_M_isWhole 212 = .ok (.iconst 0, 1) := by decide +kernel
theorem d_M_isWhole_213 : decode b_M_isWhole 213 = .ok (.istore 5, 2) := by decide +kernel
theorem d_M_isWhole_215 : decode b_M_isWhole 215 = .ok (.iload 5, 2) := by decide +kernel
theorem d_M_isWhole_217 : decode b_M_isWhole 217 = .ok (.ifCond .eq 43, 3) := by decide +kernel
theorem d_M_isWhole_220 : decode b_M_isWhole 220 = .ok (.iload_n 2, 1) := by decide +kernel
theorem d_M_isWhole_221 : decode b_M_isWhole 221 = .ok (.sipush 268, 3) := by decide +kernel
theorem d_M_isWhole_224 : decode b_M_isWhole 224 = .ok (.if_icmp .le 20, 3) := by decide +kernel
theorem d_M_isWhole_227 : decode b_M_isWhole 227 = .ok (.aload_n 0, 1) := by decide +kernel
theorem d_M_isWhole_228 : decode b_M_isWhole 228 = .ok (.aload_n 0, 1) := by decide +kernel
theorem d_M_isWhole_229 : decode b_M_isWhole 229 = .ok (.iload_n 1, 1) := by decide +kernel
theorem d_M_isWhole_230 : decode b_M_isWhole 230 = .ok (.bipush 13, 2) := by decide +kernel
theorem d_M_isWhole_232 : decode b_M_isWhole 232 = .ok (.invokevirtual 119, 3) := by decide +kernel
theorem d_M_isWhole_235 : decode b_M_isWhole 235 = .ok (.invokevirtual 130, 3) := by decide +kernel
theorem d_M_isWhole_238 : decode b_M_isWhole 238 = .ok (.ifCond .eq 22, 3) := by decide +kernel
theorem d_M_isWhole_241 : decode b_M_isWhole 241 = .ok (.goto 15, 3) := by decide +kernel
theorem d_M_isWhole_244 : decode b_M_isWhole 244 = .ok (.aload_n 0, 1) := by decide +kernel
theorem d_M_isWhole_245 : decode b_M_isWhole 245 = .ok (.iload_n 1, 1) := by decide +kernel
theorem d_M_isWhole_246 : decode b_M_isWhole 246 = .ok (.bipush 13, 2) := by decide +kernel
theorem d_M_isWhole_248 : decode b_M_isWhole 248 = .ok (.invokevirtual 119, 3) := by decide +kernel
theorem d_M_isWhole_251 : decode b_M_isWhole 251 = .ok (.lconst 0, 1) := by decide +kernel
theorem d_M_isWhole_252 : decode b_M_isWhole 252 = .ok (.lcmp, 1) := by decide +kernel
theorem d_M_isWhole_253 : decode b_M_isWhole 253 = .ok (.ifCond .ne 7, 3) := by decide +kernel
theorem d_M_isWhole_256 : decode b_M_isWhole 256 = .ok (.iconst 1, 1) := by decide +kernel
theorem d_M_isWhole_257 : decode b_M_isWhole 257 = .ok (.goto 4, 3) := by decide +kernel
theorem d_M_isWhole_260 : decode b_M_isWhole 260 = .ok (.iconst 0, 1) := by decide +kernel
theorem d_M_isWhole_261 : decode b_M_isWhole 261 = .ok (.istore 5, 2) := by decide +kernel
theorem d_M_isWhole_263 : decode b_M_isWhole 263 = .ok (.iconst 0, 1) := by decide +kernel
theorem d_M_isWhole_264 : decode b_M_isWhole 264 = .ok (.istore 6, 2) := by decide +kernel
theorem d_M_isWhole_266 : decode b_M_isWhole 266 = .ok (.iload 6, 2) := by decide +kernel
theorem d_M_isWhole_268 : decode b_M_isWhole 268 = .ok (.iload_n 3, 1) := by decide +kernel
theorem d_M_isWhole_269 : decode b_M_isWhole 269 = .ok (.if_icmp .ge 41, 3) := by decide +kernel
theorem d_M_isWhole_272 : decode b_M_isWhole 272 = .ok (.iload 5, 2) := by decide +kernel
theorem d_M_isWhole_274 : decode b_M_isWhole 274 = .ok (.ifCond .eq 36, 3) := by decide +kernel
theorem d_M_isWhole_277 : decode b_M_isWhole 277 = .ok (.aload_n 0, 1) := by decide +kernel
theorem d_M_isWhole_278 : decode b_M_isWhole 278 = .ok (.aload_n 0, 1) := by decide +kernel
theorem d_M_isWhole_279 : decode b_M_isWhole 279 = .ok (.sipush 1024, 3) := by decide +kernel
theorem d_M_isWhole_282 : decode b_M_isWhole 282 = .ok (.aload_n 0, 1) := by decide +kernel
theorem d_M_isWhole_283 : decode b_M_isWhole 283 = .ok (.iload_n 1, 1) := by decide +kernel
theorem d_M_isWhole_284 : decode b_M_isWhole 284 = .ok (.bipush 13, 2) := by decide +kernel
theorem d_M_isWhole_286 : decode b_M_isWhole 286 = .ok (.invokevirtual 119, 3) := by decide +kernel
theorem d_M_isWhole_289 : decode b_M_isWhole 289 = .ok (.l2i, 1) := by decide +kernel
theorem d_M_isWhole_290 : decode b_M_isWhole 290 = .ok (.imul, 1) := by decide +kernel
theorem d_M_isWhole_291 : decode b_M_isWhole 291 = .ok (.iconst 4, 1) := by decide +kernel
theorem d_M_isWhole_292 : decode b_M_isWhole 292 = .ok (.iload 6, 2) := by decide +kernel
theorem d_M_isWhole_294 : decode b_M_isWhole 294 = .ok (.imul, 1) := by decide +kernel
theorem d_M_isWhole_295 : decode b_M_isWhole 295 = .ok (.iadd, 1) := by decide +kernel
theorem d_M_isWhole_296 : decode b_M_isWhole 296 = .ok (.invokevirtual 79, 3) := by decide +kernel
theorem d_M_isWhole_299 : decode b_M_isWhole 299 = .ok (.invokevirtual 130, 3) := by decide +kernel
theorem d_M_isWhole_302 : decode b_M_isWhole 302 = .ok (.istore 5, 2) := by decide +kernel
theorem d_M_isWhole_304 : decode b_M_isWhole 304 = .ok (.iinc 6 1, 3) := by decide +kernel
theorem d_M_isWhole_307 : decode b_M_isWhole 307 = .ok (.goto (-41), 3) := by decide +kernel
theorem d_M_isWhole_310 : decode b_M_isWhole 310 = .ok (.iconst 0, 1) := by decide +kernel
theorem d_M_isWhole_311 : decode b_M_isWhole 311 = .ok (.istore 6, 2) := by decide +kernel
theorem d_M_isWhole_313 : decode b_M_isWhole 313 = .ok (.iload 6, 2) := by decide +kernel
theorem d_M_isWhole_315 : decode b_M_isWhole 315 = .ok (.iload_n 2, 1) := by decide +kernel
theorem d_M_isWhole_316 : decode b_M_isWhole 316 = .ok (.if_icmp .ge 27, 3) := by decide +kernel
theorem d_M_isWhole_319 : decode b_M_isWhole 319 = .ok (.iload 5, 2) := by decide +kernel
theorem d_M_isWhole_321 : decode b_M_isWhole 321 = .ok (.ifCond .eq 22, 3) := by decide +kernel
theorem d_M_isWhole_324 : decode b_M_isWhole 324 = .ok (.aload_n 0, 1) := by decide +kernel
theorem d_M_isWhole_325 : decode b_M_isWhole 325 = .ok (.aload_n 0, 1) := by decide +kernel
theorem d_M_isWhole_326 : decode b_M_isWhole 326 = .ok (.iload_n 1, 1) := by decide +kernel
theorem d_M_isWhole_327 : decode b_M_isWhole 327 = .ok (.iload 6, 2) := by decide +kernel
theorem d_M_isWhole_329 : decode b_M_isWhole 329 = .ok (.invokevirtual 134, 3) := by decide +kernel
theorem d_M_isWhole_332 : decode b_M_isWhole 332 = .ok (.invokevirtual 130, 3) := by decide +kernel
theorem d_M_isWhole_335 : decode b_M_isWhole 335 = .ok (.istore 5, 2) := by decide +kernel
theorem d_M_isWhole_337 : decode b_M_isWhole 337 = .ok (.iinc 6 1, 3) := by decide +kernel
theorem d_M_isWhole_340 : decode b_M_isWhole 340 = .ok (.goto (-27), 3) := by decide +kernel
theorem d_M_isWhole_343 : decode b_M_isWhole 343 = .ok (.iload 5, 2) := by decide +kernel
theorem d_M_isWhole_345 : decode b_M_isWhole 345 = .ok (.ireturn, 1) := by decide +kernel
theorem d_M_lengthAt_0 : decode b_M_lengthAt 0 = .ok (.aload_n 0, 1) := by decide +kernel
theorem d_M_lengthAt_1 : decode b_M_lengthAt 1 = .ok (.iload_n 1, 1) := by decide +kernel
theorem d_M_lengthAt_2 : decode b_M_lengthAt 2 = .ok (.iconst 4, 1) := by decide +kernel
theorem d_M_lengthAt_3 : decode b_M_lengthAt 3 = .ok (.iadd, 1) := by decide +kernel
theorem d_M_lengthAt_4 : decode b_M_lengthAt 4 = .ok (.invokevirtual 51, 3) := by decide +kernel
theorem d_M_lengthAt_7 : decode b_M_lengthAt 7 = .ok (.ireturn, 1) := by decide +kernel
theorem d_M_nameSize_0 : decode b_M_nameSize 0 = .ok (.aload_n 0, 1) := by decide +kernel
theorem d_M_nameSize_1 : decode b_M_nameSize 1 = .ok (.iload_n 1, 1) := by decide +kernel
theorem d_M_nameSize_2 : decode b_M_nameSize 2 = .ok (.bipush 6, 2) := by decide +kernel
theorem d_M_nameSize_4 : decode b_M_nameSize 4 = .ok (.iadd, 1) := by decide +kernel
theorem d_M_nameSize_5 : decode b_M_nameSize 5 = .ok (.invokevirtual 47, 3) := by decide +kernel
theorem d_M_nameSize_8 : decode b_M_nameSize 8 = .ok (.ireturn, 1) := by decide +kernel
theorem d_M_isDots_0 : decode b_M_isDots 0 = .ok (.aload_n 0, 1) := by decide +kernel
theorem d_M_isDots_1 : decode b_M_isDots 1 = .ok (.iload_n 1, 1) := by decide +kernel
theorem d_M_isDots_2 : decode b_M_isDots 2 = .ok (.invokevirtual 137, 3) := by decide +kernel
theorem d_M_isDots_5 : decode b_M_isDots 5 = .ok (.iload_n 2, 1) := by decide +kernel
theorem d_M_isDots_6 : decode b_M_isDots 6 = .ok (.if_icmp .ne 7, 3) := by decide +kernel
theorem d_M_isDots_9 : decode b_M_isDots 9 = .ok (.iconst 1, 1) := by decide +kernel
theorem d_M_isDots_10 : decode b_M_isDots 10 = .ok (.goto 4, 3) := by decide +kernel
theorem d_M_isDots_13 : decode b_M_isDots 13 = .ok (.iconst 0, 1) := by decide +kernel
theorem d_M_isDots_14 : decode b_M_isDots 14 = .ok (.istore_n 3, 1) := by decide +kernel
theorem d_M_isDots_15 : decode b_M_isDots 15 = .ok (.iconst 0, 1) := by decide +kernel
theorem d_M_isDots_16 : decode b_M_isDots 16 = .ok (.istore 4, 2) := by decide +kernel
theorem d_M_isDots_18 : decode b_M_isDots 18 = .ok (.iload 4, 2) := by decide +kernel
theorem d_M_isDots_20 : decode b_M_isDots 20 = .ok (.iload_n 2, 1) := by decide +kernel
theorem d_M_isDots_21 : decode b_M_isDots 21 = .ok (.if_icmp .ge 35, 3) := by decide +kernel
theorem d_M_isDots_24 : decode b_M_isDots 24 = .ok (.iload_n 3, 1) := by decide +kernel
theorem d_M_isDots_25 : decode b_M_isDots 25 = .ok (.ifCond .eq 31, 3) := by decide +kernel
theorem d_M_isDots_28 : decode b_M_isDots 28 = .ok (.aload_n 0, 1) := by decide +kernel
theorem d_M_isDots_29 : decode b_M_isDots 29 = .ok (.iload_n 1, 1) := by decide +kernel
theorem d_M_isDots_30 : decode b_M_isDots 30 = .ok (.bipush 8, 2) := by decide +kernel
theorem d_M_isDots_32 : decode b_M_isDots 32 = .ok (.iadd, 1) := by decide +kernel
theorem d_M_isDots_33 : decode b_M_isDots 33 = .ok (.iload 4, 2) := by decide +kernel
theorem d_M_isDots_35 : decode b_M_isDots 35 = .ok (.iadd, 1) := by decide +kernel
theorem d_M_isDots_36 : decode b_M_isDots 36 = .ok (.invokevirtual 47, 3) := by decide +kernel
theorem d_M_isDots_39 : decode b_M_isDots 39 = .ok (.bipush 46, 2) := by decide +kernel
theorem d_M_isDots_41 : decode b_M_isDots 41 = .ok (.if_icmp .ne 7, 3) := by decide +kernel
theorem d_M_isDots_44 : decode b_M_isDots 44 = .ok (.iconst 1, 1) := by decide +kernel
theorem d_M_isDots_45 : decode b_M_isDots 45 = .ok (.goto 4, 3) := by decide +kernel
theorem d_M_isDots_48 : decode b_M_isDots 48 = .ok (.iconst 0, 1) := by decide +kernel
theorem d_M_isDots_49 : decode b_M_isDots 49 = .ok (.istore_n 3, 1) := by decide +kernel
theorem d_M_isDots_50 : decode b_M_isDots 50 = .ok (.iinc 4 1, 3) := by decide +kernel
theorem d_M_isDots_53 : decode b_M_isDots 53 = .ok (.goto (-35), 3) := by decide +kernel
theorem d_M_isDots_56 : decode b_M_isDots 56 = .ok (.iload_n 3, 1) := by decide +kernel
theorem d_M_isDots_57 : decode b_M_isDots 57 = .ok (.ireturn, 1) := by decide +kernel
theorem d_M_isEntry_0 : decode b_M_isEntry 0 = .ok (.aload_n 0, 1) := by decide +kernel
theorem d_M_isEntry_1 : decode b_M_isEntry 1 = .ok (.iload_n 2, 1) := by decide +kernel
theorem d_M_isEntry_2 : decode b_M_isEntry 2 = .ok (.invokevirtual 140, 3) := by decide +kernel
theorem d_M_isEntry_5 : decode b_M_isEntry 5 = .ok (.istore 5, 2) := by decide +kernel
theorem d_M_isEntry_7 : decode b_M_isEntry 7 = .ok (.aload_n 0, 1) := by decide +kernel
theorem d_M_isEntry_8 : decode b_M_isEntry 8 = .ok (.iload_n 2, 1) := by decide +kernel
theorem d_M_isEntry_9 : decode b_M_isEntry 9 = .ok (.invokevirtual 79, 3) := by decide +kernel
theorem d_M_isEntry_12 : decode b_M_isEntry 12 = .ok (.lstore 6, 2) := by decide +kernel
theorem d_M_isEntry_14 : decode b_M_isEntry 14 = .ok (.aload_n 0, 1) := by decide +kernel
theorem d_M_isEntry_15 : decode b_M_isEntry 15 = .ok (.iload_n 2, 1) := by decide +kernel
theorem d_M_isEntry_16 : decode b_M_isEntry 16 = .ok (.invokevirtual 137, 3) := by decide +kernel
theorem d_M_isEntry_19 : decode b_M_isEntry 19 = .ok (.istore 8, 2) := by decide +kernel
theorem d_M_isEntry_21 : decode b_M_isEntry 21 = .ok (.iload 5, 2) := by decide +kernel
theorem d_M_isEntry_23 : decode b_M_isEntry 23 = .ok (.bipush 12, 2) := by decide +kernel
theorem d_M_isEntry_25 : decode b_M_isEntry 25 = .ok (.if_icmp .lt 17, 3) := by decide +kernel
theorem d_M_isEntry_28 : decode b_M_isEntry 28 = .ok (.iload 5, 2) := by decide +kernel
theorem d_M_isEntry_30 : decode b_M_isEntry 30 = .ok (.iconst 4, 1) := by decide +kernel
theorem d_M_isEntry_31 : decode b_M_isEntry 31 = .ok (.irem, 1) := by decide +kernel
theorem d_M_isEntry_32 : decode b_M_isEntry 32 = .ok (.ifCond .ne 10, 3) := by decide +kernel
theorem d_M_isEntry_35 : decode b_M_isEntry 35 = .ok (.iload 5, 2) := by decide +kernel
theorem d_M_isEntry_37 : decode b_M_isEntry 37 = .ok (.iload 4, 2) := by decide +kernel
theorem d_M_isEntry_39 : decode b_M_isEntry 39 = .ok (.if_icmp .le 5, 3) := by decide +kernel
theorem d_M_isEntry_42 : decode b_M_isEntry 42 = .ok (.iconst 0, 1) := by decide +kernel
theorem d_M_isEntry_43 : decode b_M_isEntry 43 = .ok (.ireturn, 1) := by decide +kernel
theorem d_M_isEntry_44 : decode b_M_isEntry 44 = .ok (.iload_n 3, 1) := by decide +kernel
theorem d_M_isEntry_45 : decode b_M_isEntry 45 = .ok (.iconst 1, 1) := by decide +kernel
theorem d_M_isEntry_46 : decode b_M_isEntry 46 = .ok (.if_icmp .le 12, 3) := by decide +kernel
theorem d_M_isEntry_49 : decode b_M_isEntry 49 = .ok (.lload 6, 2) := by decide +kernel
theorem d_M_isEntry_51 : decode b_M_isEntry 51 = .ok (.lconst 0, 1) := by decide +kernel
theorem d_M_isEntry_52 : decode b_M_isEntry 52 = .ok (.lcmp, 1) := by decide +kernel
theorem d_M_isEntry_53 : decode b_M_isEntry 53 = .ok (.ifCond .ne 5, 3) := by decide +kernel
theorem d_M_isEntry_56 : decode b_M_isEntry 56 = .ok (.iconst 1, 1) := by decide +kernel
theorem d_M_isEntry_57 : decode b_M_isEntry 57 = .ok (.ireturn, 1) := by decide +kernel
theorem d_M_isEntry_58 : decode b_M_isEntry 58 = .ok (.iload 5, 2) := by decide +kernel
theorem d_M_isEntry_60 : decode b_M_isEntry 60 = .ok (.bipush 8, 2) := by decide +kernel
theorem d_M_isEntry_62 : decode b_M_isEntry 62 = .ok (.iload 8, 2) := by decide +kernel
theorem d_M_isEntry_64 : decode b_M_isEntry 64 = .ok (.iconst 4, 1) := by decide +kernel
theorem d_M_isEntry_65 : decode b_M_isEntry 65 = .ok (.invokestatic 126, 3) := by decide +kernel
theorem d_M_isEntry_68 : decode b_M_isEntry 68 = .ok (.iconst 4, 1) := by decide +kernel
theorem d_M_isEntry_69 : decode b_M_isEntry 69 = .ok (.imul, 1) := by decide +kernel
theorem d_M_isEntry_70 : decode b_M_isEntry 70 = .ok (.iadd, 1) := by decide +kernel
theorem d_M_isEntry_71 : decode b_M_isEntry 71 = .ok (.if_icmp .lt 32, 3) := by decide +kernel
theorem d_M_isEntry_74 : decode b_M_isEntry 74 = .ok (.lload 6, 2) := by decide +kernel
theorem d_M_isEntry_76 : decode b_M_isEntry 76 = .ok (.lconst 1, 1) := by decide +kernel
theorem d_M_isEntry_77 : decode b_M_isEntry 77 = .ok (.lcmp, 1) := by decide +kernel
theorem d_M_isEntry_78 : decode b_M_isEntry 78 = .ok (.ifCond .lt 25, 3) := by decide +kernel
theorem d_M_isEntry_81 : decode b_M_isEntry 81 = .ok (.lload 6, 2) := by decide +kernel
theorem d_M_isEntry_83 : decode b_M_isEntry 83 = .ok (.aload_n 0, 1) := by decide +kernel
theorem d_M_isEntry_84 : decode b_M_isEntry 84 = .ok (.getfield 73, 3) := by decide +kernel
theorem d_M_isEntry_87 : decode b_M_isEntry 87 = .ok (.i2l, 1) := by decide +kernel
theorem d_M_isEntry_88 : decode b_M_isEntry 88 = .ok (.aload_n 0, 1) := by decide +kernel
theorem d_M_isEntry_89 : decode b_M_isEntry 89 = .ok (.getfield 93, 3) := by decide +kernel
theorem d_M_isEntry_92 : decode b_M_isEntry 92 = .ok (.i2l, 1) := by decide +kernel
theorem d_M_isEntry_93 : decode b_M_isEntry 93 = .ok (.lmul, 1) := by decide +kernel
theorem d_M_isEntry_94 : decode b_M_isEntry 94 = .ok (.lcmp, 1) := by decide +kernel
theorem d_M_isEntry_95 : decode b_M_isEntry 95 = .ok (.ifCond .gt 8, 3) := by decide +kernel
theorem d_M_isEntry_98 : decode b_M_isEntry 98 = .ok (.iload 8, 2) := by decide +kernel
theorem d_M_isEntry_100 : decode b_M_isEntry 100 = .ok (.ifCond .ne 5, 3) := by decide +kernel
theorem d_M_isEntry_103 : decode b_M_isEntry 103 = .ok (.iconst 0, 1) := by decide +kernel
theorem d_M_isEntry_104 : decode b_M_isEntry 104 = .ok (.ireturn, 1) := by decide +kernel
theorem d_M_isEntry_105 : decode b_M_isEntry 105 = .ok (.iconst 0, 1) := by decide +kernel
theorem d_M_isEntry_106 : decode b_M_isEntry 106 = .ok (.istore 9, 2) := by decide +kernel
theorem d_M_isEntry_108 : decode b_M_isEntry 108 = .ok (.iload 9, 2) := by decide +kernel
theorem d_M_isEntry_110 : decode b_M_isEntry 110 = .ok (.iload 8, 2) := by decide +kernel
theorem d_M_isEntry_112 : decode b_M_isEntry 112 = .ok (.if_icmp .ge 41, 3) := by decide +kernel
theorem d_M_isEntry_115 : decode b_M_isEntry 115 = .ok (.aload_n 0, 1) := by decide +kernel
theorem d_M_isEntry_116 : decode b_M_isEntry 116 = .ok (.iload_n 2, 1) := by decide +kernel
theorem d_M_isEntry_117 : decode b_M_isEntry 117 = .ok (.bipush 8, 2) := by decide +kernel
theorem d_M_isEntry_119 : decode b_M_isEntry 119 = .ok (.iadd, 1) := by decide +kernel
theorem d_M_isEntry_120 : decode b_M_isEntry 120 = .ok (.iload 9, 2) := by decide +kernel
theorem d_M_isEntry_122 : decode b_M_isEntry 122 = .ok (.iadd, 1) := by decide +kernel
theorem d_M_isEntry_123 : decode b_M_isEntry 123 = .ok (.invokevirtual 47, 3) := by decide +kernel
theorem d_M_isEntry_126 : decode b_M_isEntry 126 = .ok (.ifCond .eq 19, 3) := by decide +kernel
theorem d_M_isEntry_129 : decode b_M_isEntry 129 = .ok (.aload_n 0, 1) := by decide +kernel
theorem d_M_isEntry_130 : decode b_M_isEntry 130 = .ok (.iload_n 2, 1) := by decide +kernel
theorem d_M_isEntry_131 : decode b_M_isEntry 131 = .ok (.bipush 8, 2) := by decide +kernel
theorem d_M_isEntry_133 : decode b_M_isEntry 133 = .ok (.iadd, 1) := by decide +kernel
theorem d_M_isEntry_134 : decode b_M_isEntry 134 = .ok (.iload 9, 2) := by decide +kernel
theorem d_M_isEntry_136 : decode b_M_isEntry 136 = .ok (.iadd, 1) := by decide +kernel
theorem d_M_isEntry_137 : decode b_M_isEntry 137 = .ok (.invokevirtual 47, 3) := by decide +kernel
theorem d_M_isEntry_140 : decode b_M_isEntry 140 = .ok (.bipush 47, 2) := by decide +kernel
theorem d_M_isEntry_142 : decode b_M_isEntry 142 = .ok (.if_icmp .ne 5, 3) := by decide +kernel
theorem d_M_isEntry_145 : decode b_M_isEntry 145 = .ok (.iconst 0, 1) := by decide +kernel
theorem d_M_isEntry_146 : decode b_M_isEntry 146 = .ok (.ireturn, 1) := by decide +kernel
theorem d_M_isEntry_147 : decode b_M_isEntry 147 = .ok (.iinc 9 1, 3) := by decide +kernel
theorem d_M_isEntry_150 : decode b_M_isEntry 150 = .ok (.goto (-42), 3) := by decide +kernel
theorem d_M_isEntry_153 : decode b_M_isEntry 153 = .ok (.lload 6, 2) := by decide +kernel
theorem d_M_isEntry_155 : decode b_M_isEntry 155 = .ok (.l2i, 1) := by decide +kernel
theorem d_M_isEntry_156 : decode b_M_isEntry 156 = .ok (.istore 9, 2) := by decide +kernel
theorem d_M_isEntry_158 : decode b_M_isEntry 158 = .ok (.iload_n 3, 1) := by decide +kernel
theorem d_M_isEntry_159 : decode b_M_isEntry 159 = .ok (.iconst 2, 1) := by decide +kernel
theorem d_M_isEntry_160 : decode b_M_isEntry 160 = .ok (.if_icmp .ge 51, 3) := by decide +kernel
theorem d_M_isEntry_163 : decode b_M_isEntry 163 = .ok (.aload_n 0, 1) := by decide +kernel
theorem d_M_isEntry_164 : decode b_M_isEntry 164 = .ok (.iload_n 2, 1) := by decide +kernel
theorem d_M_isEntry_165 : decode b_M_isEntry 165 = .ok (.iload_n 3, 1) := by decide +kernel
theorem d_M_isEntry_166 : decode b_M_isEntry 166 = .ok (.iconst 1, 1) := by decide +kernel
theorem d_M_isEntry_167 : decode b_M_isEntry 167 = .ok (.iadd, 1) := by decide +kernel
theorem d_M_isEntry_168 : decode b_M_isEntry 168 = .ok (.invokevirtual 143, 3) := by decide +kernel
theorem d_M_isEntry_171 : decode b_M_isEntry 171 = .ok (.ifCond .eq 38, 3) := by decide +kernel
theorem d_M_isEntry_174 : decode b_M_isEntry 174 = .ok (.iload 9, 2) := by decide +kernel
theorem d_M_isEntry_176 : decode b_M_isEntry 176 = .ok (.iload_n 3, 1) := by decide +kernel
theorem d_M_isEntry_177 : decode b_M_isEntry 177 = .ok (.ifCond .ne 7, 3) := by decide +kernel
theorem d_M_isEntry_180 : decode b_M_isEntry 180 = .ok (.iload_n 1, 1) := by decide +kernel
theorem d_M_isEntry_181 : decode b_M_isEntry 181 = .ok (.goto 9, 3) := by decide +kernel
theorem d_M_isEntry_184 : decode b_M_isEntry 184 = .ok (.aload_n 0, 1) := by decide +kernel
theorem d_M_isEntry_185 : decode b_M_isEntry 185 = .ok (.getfield 28, 3) := by decide +kernel
theorem d_M_isEntry_188 : decode b_M_isEntry 188 = .ok (.iload_n 1, 1) := by decide +kernel
theorem d_M_isEntry_189 : decode b_M_isEntry 189 = .ok (.iaload, 1) := by decide +kernel
theorem d_M_isEntry_190 : decode b_M_isEntry 190 = .ok (.if_icmp .ne 19, 3) := by decide +kernel
theorem d_M_isEntry_193 : decode b_M_isEntry 193 = .ok (.aload_n 0, 1) := by decide +kernel
theorem d_M_isEntry_194 : decode b_M_isEntry 194 = .ok (.iload_n 2, 1) := by decide +kernel
theorem d_M_isEntry_195 : decode b_M_isEntry 195 = .ok (.bipush 7, 2) := by decide +kernel
theorem d_M_isEntry_197 : decode b_M_isEntry 197 = .ok (.iadd, 1) := by decide +kernel
theorem d_M_isEntry_198 : decode b_M_isEntry 198 = .ok (.invokevirtual 47, 3) := by decide +kernel
theorem d_M_isEntry_201 : decode b_M_isEntry 201 = .ok (.iconst 2, 1) := by decide +kernel
theorem d_M_isEntry_202 : decode b_M_isEntry 202 = .ok (.if_icmp .ne 7, 3) := by decide +kernel
theorem d_M_isEntry_205 : decode b_M_isEntry 205 = .ok (.iconst 1, 1) := by decide +kernel
theorem d_M_isEntry_206 : decode b_M_isEntry 206 = .ok (.goto 4, 3) := by decide +kernel
theorem d_M_isEntry_209 : decode b_M_isEntry 209 = .ok (.iconst 0, 1) := by decide +kernel
theorem d_M_isEntry_210 : decode b_M_isEntry 210 = .ok (.ireturn, 1) := by decide +kernel
theorem d_M_isEntry_211 : decode b_M_isEntry 211 = .ok (.aload_n 0, 1) := by decide +kernel
theorem d_M_isEntry_212 : decode b_M_isEntry 212 = .ok (.iload 9, 2) := by decide +kernel
theorem d_M_isEntry_214 : decode b_M_isEntry 214 = .ok (.invokevirtual 146, 3) := by decide +kernel
theorem d_M_isEntry_217 : decode b_M_isEntry 217 = .ok (.istore 10, 2) := by decide +kernel
theorem d_M_isEntry_219 : decode b_M_isEntry 219 = .ok (.aload_n 0, 1) := by decide +kernel
theorem d_M_isEntry_220 : decode b_M_isEntry 220 = .ok (.iload_n 2, 1) := by decide +kernel
theorem d_M_isEntry_221 : decode b_M_isEntry 221 = .ok (.iconst 1, 1) := by decide +kernel
theorem d_M_isEntry_222 : decode b_M_isEntry 222 = .ok (.invokevirtual 143, 3) := by decide +kernel
theorem d_M_isEntry_225 : decode b_M_isEntry 225 = .ok (.ifCond .ne 64, 3) := by decide +kernel
theorem d_M_isEntry_228 : decode b_M_isEntry 228 = .ok (.aload_n 0, 1) := by decide +kernel
theorem d_M_isEntry_229 : decode b_M_isEntry 229 = .ok (.iload_n 2, 1) := by decide +kernel
theorem d_M_isEntry_230 : decode b_M_isEntry 230 = .ok (.iconst 2, 1) := by decide +kernel
theorem d_M_isEntry_231 : decode b_M_isEntry 231 = .ok (.invokevirtual 143, 3) := by decide +kernel
theorem d_M_isEntry_234 : decode b_M_isEntry 234 = .ok (.ifCond .ne 55, 3) := by decide +kernel
theorem d_M_isEntry_237 : decode b_M_isEntry 237 = .ok (.aload_n 0, 1) := by decide +kernel
theorem d_M_isEntry_238 : decode b_M_isEntry 238 = .ok (.iload 9, 2) := by decide +kernel
theorem d_M_isEntry_240 : decode b_M_isEntry 240 = .ok (.invokevirtual 149, 3) := by decide +kernel
theorem d_M_isEntry_243 : decode b_M_isEntry 243 = .ok (.ifCond .eq 46, 3) := by decide +kernel
theorem d_M_isEntry_246 : decode b_M_isEntry 246 = .ok (.iload 10, 2) := by decide +kernel
theorem d_M_isEntry_248 : decode b_M_isEntry 248 = .ok (.sipush 16384, 3) := by decide +kernel
theorem d_M_isEntry_251 : decode b_M_isEntry 251 = .ok (.if_icmp .eq 10, 3) := by decide +kernel
theorem d_M_isEntry_254 : decode b_M_isEntry 254 = .ok (.iload 10, 2) := by decide +kernel
theorem d_M_isEntry_256 : decode b_M_isEntry 256 = .ok (.ldc 152, 2) := by decide +kernel
theorem d_M_isEntry_258 : decode b_M_isEntry 258 = .ok (.if_icmp .ne 31, 3) := by decide +kernel
theorem d_M_isEntry_261 : decode b_M_isEntry 261 = .ok (.aload_n 0, 1) := by decide +kernel
theorem d_M_isEntry_262 : decode b_M_isEntry 262 = .ok (.iload_n 2, 1) := by decide +kernel
theorem d_M_isEntry_263 : decode b_M_isEntry 263 = .ok (.bipush 7, 2) := by decide +kernel
theorem d_M_isEntry_265 : decode b_M_isEntry 265 = .ok (.iadd, 1) := by decide +kernel
theorem d_M_isEntry_266 : decode b_M_isEntry 266 = .ok (.invokevirtual 47, 3) := by decide +kernel
theorem d_M_isEntry_269 : decode b_M_isEntry 269 = .ok (.iload 10, 2) := by decide +kernel
theorem d_M_isEntry_271 : decode b_M_isEntry 271 = .ok (.sipush 16384, 3) := by decide +kernel
theorem d_M_isEntry_274 : decode b_M_isEntry 274 = .ok (.if_icmp .ne 7, 3) := by decide +kernel
theorem d_M_isEntry_277 : decode b_M_isEntry 277 = .ok (.iconst 2, 1) := by decide +kernel
theorem d_M_isEntry_278 : decode b_M_isEntry 278 = .ok (.goto 4, 3) := by decide +kernel
theorem d_M_isEntry_281 : decode b_M_isEntry 281 = .ok (.iconst 1, 1) := by decide +kernel
theorem d_M_isEntry_282 : decode b_M_isEntry 282 = .ok (.if_icmp .ne 7, 3) := by decide +kernel
theorem d_M_isEntry_285 : decode b_M_isEntry 285 = .ok (.iconst 1, 1) := by decide +kernel
theorem d_M_isEntry_286 : decode b_M_isEntry 286 = .ok (.goto 4, 3) := by decide +kernel
theorem d_M_isEntry_289 : decode b_M_isEntry 289 = .ok (.iconst 0, 1) := by decide +kernel
theorem d_M_isEntry_290 : decode b_M_isEntry 290 = .ok (.ireturn, 1) := by decide +kernel
