theorem d_E_start_0 : decode b_E_start 0 = .ok (.aload_n 0, 1) := by decide +kernel
theorem d_E_start_1 : decode b_E_start 1 = .ok (.iload_n 1, 1) := by decide +kernel
theorem d_E_start_2 : decode b_E_start 2 = .ok (.putfield 19, 3) := by decide +kernel
theorem d_E_start_5 : decode b_E_start 5 = .ok (.aload_n 0, 1) := by decide +kernel
theorem d_E_start_6 : decode b_E_start 6 = .ok (.aload_n 0, 1) := by decide +kernel
theorem d_E_start_7 : decode b_E_start 7 = .ok (.getfield 15, 3) := by decide +kernel
theorem d_E_start_10 : decode b_E_start 10 = .ok (.iload_n 1, 1) := by decide +kernel
theorem d_E_start_11 : decode b_E_start 11 = .ok (.invokevirtual 23, 3) := by decide +kernel
theorem d_E_start_14 : decode b_E_start 14 = .ok (.putfield 29, 3) := by decide +kernel
theorem d_E_start_17 : decode b_E_start 17 = .ok (.aload_n 0, 1) := by decide +kernel
theorem d_E_start_18 : decode b_E_start 18 = .ok (.lconst 0, 1) := by decide +kernel
theorem d_E_start_19 : decode b_E_start 19 = .ok (.putfield 33, 3) := by decide +kernel
theorem d_E_start_22 : decode b_E_start 22 = .ok (.aload_n 0, 1) := by decide +kernel
theorem d_E_start_23 : decode b_E_start 23 = .ok (.iconst 0, 1) := by decide +kernel
theorem d_E_start_24 : decode b_E_start 24 = .ok (.putfield 36, 3) := by decide +kernel
theorem d_E_start_27 : decode b_E_start 27 = .ok (.aload_n 0, 1) := by decide +kernel
theorem d_E_start_28 : decode b_E_start 28 = .ok (.ldc2_w 39, 3) := by decide +kernel
theorem d_E_start_31 : decode b_E_start 31 = .ok (.aload_n 0, 1) := by decide +kernel
theorem d_E_start_32 : decode b_E_start 32 = .ok (.getfield 15, 3) := by decide +kernel
theorem d_E_start_35 : decode b_E_start 35 = .ok (.iload_n 1, 1) := by decide +kernel
theorem d_E_start_36 : decode b_E_start 36 = .ok (.iconst 0, 1) := by decide +kernel
theorem d_E_start_37 : decode b_E_start 37 = .ok (.invokevirtual 41, 3) := by decide +kernel
theorem d_E_start_40 : decode b_E_start 40 = .ok (.lmul, 1) := by decide +kernel
theorem d_E_start_41 : decode b_E_start 41 = .ok (.putfield 45, 3) := by decide +kernel
theorem d_E_start_44 : decode b_E_start 44 = .ok (.aload_n 0, 1) := by decide +kernel
theorem d_E_start_45 : decode b_E_start 45 = .ok (.aload_n 0, 1) := by decide +kernel
theorem d_E_start_46 : decode b_E_start 46 = .ok (.getfield 9, 3) := by decide +kernel
theorem d_E_start_49 : decode b_E_start 49 = .ok (.aload_n 0, 1) := by decide +kernel
theorem d_E_start_50 : decode b_E_start 50 = .ok (.getfield 45, 3) := by decide +kernel
theorem d_E_start_53 : decode b_E_start 53 = .ok (.bipush 8, 2) := by decide +kernel
theorem d_E_start_55 : decode b_E_start 55 = .ok (.invokevirtual 48, 3) := by decide +kernel
theorem d_E_start_58 : decode b_E_start 58 = .ok (.putfield 54, 3) := by decide +kernel
theorem d_E_start_61 : decode b_E_start 61 = .ok (.return_, 1) := by decide +kernel
theorem d_E_isOn_0 : decode b_E_isOn 0 = .ok (.aload_n 0, 1) := by decide +kernel
theorem d_E_isOn_1 : decode b_E_isOn 1 = .ok (.getfield 33, 3) := by decide +kernel
theorem d_E_isOn_4 : decode b_E_isOn 4 = .ok (.aload_n 0, 1) := by decide +kernel
theorem d_E_isOn_5 : decode b_E_isOn 5 = .ok (.getfield 29, 3) := by decide +kernel
theorem d_E_isOn_8 : decode b_E_isOn 8 = .ok (.lcmp, 1) := by decide +kernel
theorem d_E_isOn_9 : decode b_E_isOn 9 = .ok (.ifCond .ge 7, 3) := by decide +kernel
theorem d_E_isOn_12 : decode b_E_isOn 12 = .ok (.iconst 1, 1) := by decide +kernel
theorem d_E_isOn_13 : decode b_E_isOn 13 = .ok (.goto 4, 3) := by decide +kernel
theorem d_E_isOn_16 : decode b_E_isOn 16 = .ok (.iconst 0, 1) := by decide +kernel
theorem d_E_isOn_17 : decode b_E_isOn 17 = .ok (.ireturn, 1) := by decide +kernel
theorem d_E_length_0 : decode b_E_length 0 = .ok (.aload_n 0, 1) := by decide +kernel
theorem d_E_length_1 : decode b_E_length 1 = .ok (.getfield 54, 3) := by decide +kernel
theorem d_E_length_4 : decode b_E_length 4 = .ok (.bipush 32, 2) := by decide +kernel
theorem d_E_length_6 : decode b_E_length 6 = .ok (.lushr, 1) := by decide +kernel
theorem d_E_length_7 : decode b_E_length 7 = .ok (.l2i, 1) := by decide +kernel
theorem d_E_length_8 : decode b_E_length 8 = .ok (.ldc 73, 2) := by decide +kernel
theorem d_E_length_10 : decode b_E_length 10 = .ok (.iand, 1) := by decide +kernel
theorem d_E_length_11 : decode b_E_length 11 = .ok (.ireturn, 1) := by decide +kernel
theorem d_E_fits_0 : decode b_E_fits 0 = .ok (.aload_n 0, 1) := by decide +kernel
theorem d_E_fits_1 : decode b_E_fits 1 = .ok (.invokevirtual 57, 3) := by decide +kernel
theorem d_E_fits_4 : decode b_E_fits 4 = .ok (.istore_n 1, 1) := by decide +kernel
theorem d_E_fits_5 : decode b_E_fits 5 = .ok (.iload_n 1, 1) := by decide +kernel
theorem d_E_fits_6 : decode b_E_fits 6 = .ok (.bipush 12, 2) := by decide +kernel
theorem d_E_fits_8 : decode b_E_fits 8 = .ok (.if_icmp .lt 31, 3) := by decide +kernel
theorem d_E_fits_11 : decode b_E_fits 11 = .ok (.iload_n 1, 1) := by decide +kernel
theorem d_E_fits_12 : decode b_E_fits 12 = .ok (.iconst 4, 1) := by decide +kernel
theorem d_E_fits_13 : decode b_E_fits 13 = .ok (.irem, 1) := by decide +kernel
theorem d_E_fits_14 : decode b_E_fits 14 = .ok (.ifCond .ne 25, 3) := by decide +kernel
theorem d_E_fits_17 : decode b_E_fits 17 = .ok (.aload_n 0, 1) := by decide +kernel
theorem d_E_fits_18 : decode b_E_fits 18 = .ok (.getfield 33, 3) := by decide +kernel
theorem d_E_fits_21 : decode b_E_fits 21 = .ok (.ldc2_w 39, 3) := by decide +kernel
theorem d_E_fits_24 : decode b_E_fits 24 = .ok (.lrem, 1) := by decide +kernel
theorem d_E_fits_25 : decode b_E_fits 25 = .ok (.iload_n 1, 1) := by decide +kernel
theorem d_E_fits_26 : decode b_E_fits 26 = .ok (.i2l, 1) := by decide +kernel
theorem d_E_fits_27 : decode b_E_fits 27 = .ok (.ladd, 1) := by decide +kernel
theorem d_E_fits_28 : decode b_E_fits 28 = .ok (.ldc2_w 39, 3) := by decide +kernel
theorem d_E_fits_31 : decode b_E_fits 31 = .ok (.lcmp, 1) := by decide +kernel
theorem d_E_fits_32 : decode b_E_fits 32 = .ok (.ifCond .gt 7, 3) := by decide +kernel
theorem d_E_fits_35 : decode b_E_fits 35 = .ok (.iconst 1, 1) := by decide +kernel
theorem d_E_fits_36 : decode b_E_fits 36 = .ok (.goto 4, 3) := by decide +kernel
theorem d_E_fits_39 : decode b_E_fits 39 = .ok (.iconst 0, 1) := by decide +kernel
theorem d_E_fits_40 : decode b_E_fits 40 = .ok (.ireturn, 1) := by decide +kernel
theorem d_E_isEmpty_0 : decode b_E_isEmpty 0 = .ok (.aload_n 0, 1) := by decide +kernel
theorem d_E_isEmpty_1 : decode b_E_isEmpty 1 = .ok (.getfield 36, 3) := by decide +kernel
theorem d_E_isEmpty_4 : decode b_E_isEmpty 4 = .ok (.iconst 2, 1) := by decide +kernel
theorem d_E_isEmpty_5 : decode b_E_isEmpty 5 = .ok (.if_icmp .lt 20, 3) := by decide +kernel
theorem d_E_isEmpty_8 : decode b_E_isEmpty 8 = .ok (.aload_n 0, 1) := by decide +kernel
theorem d_E_isEmpty_9 : decode b_E_isEmpty 9 = .ok (.getfield 54, 3) := by decide +kernel
theorem d_E_isEmpty_12 : decode b_E_isEmpty 12 = .ok (.ldc2_w 67, 3) := by decide +kernel
theorem d_E_isEmpty_15 : decode b_E_isEmpty 15 = .ok (.land, 1) := by decide +kernel
theorem d_E_isEmpty_16 : decode b_E_isEmpty 16 = .ok (.lconst 0, 1) := by decide +kernel
theorem d_E_isEmpty_17 : decode b_E_isEmpty 17 = .ok (.lcmp, 1) := by decide +kernel
theorem d_E_isEmpty_18 : decode b_E_isEmpty 18 = .ok (.ifCond .ne 7, 3) := by decide +kernel
theorem d_E_isEmpty_21 : decode b_E_isEmpty 21 = .ok (.iconst 1, 1) := by decide +kernel
theorem d_E_isEmpty_22 : decode b_E_isEmpty 22 = .ok (.goto 4, 3) := by decide +kernel
theorem d_E_isEmpty_25 : decode b_E_isEmpty 25 = .ok (.iconst 0, 1) := by decide +kernel
theorem d_E_isEmpty_26 : decode b_E_isEmpty 26 = .ok (.ireturn, 1) := by decide +kernel
theorem d_E_hasInode_0 : decode b_E_hasInode 0 = .ok (.aload_n 0, 1) := by decide +kernel
theorem d_E_hasInode_1 : decode b_E_hasInode 1 = .ok (.getfield 15, 3) := by decide +kernel
theorem d_E_hasInode_4 : decode b_E_hasInode 4 = .ok (.aload_n 0, 1) := by decide +kernel
theorem d_E_hasInode_5 : decode b_E_hasInode 5 = .ok (.getfield 54, 3) := by decide +kernel
theorem d_E_hasInode_8 : decode b_E_hasInode 8 = .ok (.ldc2_w 67, 3) := by decide +kernel
theorem d_E_hasInode_11 : decode b_E_hasInode 11 = .ok (.land, 1) := by decide +kernel
theorem d_E_hasInode_12 : decode b_E_hasInode 12 = .ok (.invokevirtual 69, 3) := by decide +kernel
theorem d_E_hasInode_15 : decode b_E_hasInode 15 = .ok (.ireturn, 1) := by decide +kernel
theorem d_E_nameLength_0 : decode b_E_nameLength 0 = .ok (.aload_n 0, 1) := by decide +kernel
theorem d_E_nameLength_1 : decode b_E_nameLength 1 = .ok (.getfield 54, 3) := by decide +kernel
theorem d_E_nameLength_4 : decode b_E_nameLength 4 = .ok (.bipush 48, 2) := by decide +kernel
theorem d_E_nameLength_6 : decode b_E_nameLength 6 = .ok (.lushr, 1) := by decide +kernel
theorem d_E_nameLength_7 : decode b_E_nameLength 7 = .ok (.l2i, 1) := by decide +kernel
theorem d_E_nameLength_8 : decode b_E_nameLength 8 = .ok (.sipush 255, 3) := by decide +kernel
theorem d_E_nameLength_11 : decode b_E_nameLength 11 = .ok (.iand, 1) := by decide +kernel
theorem d_E_nameLength_12 : decode b_E_nameLength 12 = .ok (.ireturn, 1) := by decide +kernel
theorem d_E_hasName_0 : decode b_E_hasName 0 = .ok (.aload_n 0, 1) := by decide +kernel
theorem d_E_hasName_1 : decode b_E_hasName 1 = .ok (.invokevirtual 76, 3) := by decide +kernel
theorem d_E_hasName_4 : decode b_E_hasName 4 = .ok (.istore_n 1, 1) := by decide +kernel
theorem d_E_hasName_5 : decode b_E_hasName 5 = .ok (.iload_n 1, 1) := by decide +kernel
theorem d_E_hasName_6 : decode b_E_hasName 6 = .ok (.ifCond .eq 14, 3) := by decide +kernel
theorem d_E_hasName_9 : decode b_E_hasName 9 = .ok (.bipush 8, 2) := by decide +kernel
theorem d_E_hasName_11 : decode b_E_hasName 11 = .ok (.iload_n 1, 1) := by decide +kernel
theorem d_E_hasName_12 : decode b_E_hasName 12 = .ok (.iadd, 1) := by decide +kernel
theorem d_E_hasName_13 : decode b_E_hasName 13 = .ok (.aload_n 0, 1) := by decide +kernel
theorem d_E_hasName_14 : decode b_E_hasName 14 = .ok (.invokevirtual 57, 3) := by decide +kernel
theorem d_E_hasName_17 : decode b_E_hasName 17 = .ok (.if_icmp .le 5, 3) := by decide +kernel
theorem d_E_hasName_20 : decode b_E_hasName 20 = .ok (.iconst 0, 1) := by decide +kernel
theorem d_E_hasName_21 : decode b_E_hasName 21 = .ok (.ireturn, 1) := by decide +kernel
theorem d_E_hasName_22 : decode b_E_hasName 22 = .ok (.iconst 0, 1) := by decide +kernel
theorem d_E_hasName_23 : decode b_E_hasName 23 = .ok (.istore_n 2, 1) := by decide +kernel
theorem d_E_hasName_24 : decode b_E_hasName 24 = .ok (.iload_n 2, 1) := by decide +kernel
theorem d_E_hasName_25 : decode b_E_hasName 25 = .ok (.iload_n 1, 1) := by decide +kernel
theorem d_E_hasName_26 : decode b_E_hasName 26 = .ok (.if_icmp .ge 45, 3) := by decide +kernel
theorem d_E_hasName_29 : decode b_E_hasName 29 = .ok (.aload_n 0, 1) := by decide +kernel
theorem d_E_hasName_30 : decode b_E_hasName 30 = .ok (.getfield 9, 3) := by decide +kernel
theorem d_E_hasName_33 : decode b_E_hasName 33 = .ok (.aload_n 0, 1) := by decide +kernel
theorem d_E_hasName_34 : decode b_E_hasName 34 = .ok (.getfield 45, 3) := by decide +kernel
theorem d_E_hasName_37 : decode b_E_hasName 37 = .ok (.ldc2_w 74, 3) := by decide +kernel
theorem d_E_hasName_40 : decode b_E_hasName 40 = .ok (.ladd, 1) := by decide +kernel
theorem d_E_hasName_41 : decode b_E_hasName 41 = .ok (.iload_n 2, 1) := by decide +kernel
theorem d_E_hasName_42 : decode b_E_hasName 42 = .ok (.i2l, 1) := by decide +kernel
theorem d_E_hasName_43 : decode b_E_hasName 43 = .ok (.ladd, 1) := by decide +kernel
theorem d_E_hasName_44 : decode b_E_hasName 44 = .ok (.iconst 1, 1) := by decide +kernel
theorem d_E_hasName_45 : decode b_E_hasName 45 = .ok (.invokevirtual 48, 3) := by decide +kernel
theorem d_E_hasName_48 : decode b_E_hasName 48 = .ok (.lstore_n 3, 1) := by decide +kernel
theorem d_E_hasName_49 : decode b_E_hasName 49 = .ok (.lload_n 3, 1) := by decide +kernel
theorem d_E_hasName_50 : decode b_E_hasName 50 = .ok (.lconst 0, 1) := by decide +kernel
theorem d_E_hasName_51 : decode b_E_hasName 51 = .ok (.lcmp, 1) := by decide +kernel
theorem d_E_hasName_52 : decode b_E_hasName 52 = .ok (.ifCond .eq 11, 3) := by decide +kernel
theorem d_E_hasName_55 : decode b_E_hasName 55 = .ok (.lload_n 3, 1) := by decide +kernel
theorem d_E_hasName_56 : decode b_E_hasName 56 = .ok (.ldc2_w 79, 3) := by decide +kernel
theorem d_E_hasName_59 : decode b_E_hasName 59 = .ok (.lcmp, 1) := by decide +kernel
theorem d_E_hasName_60 : decode b_E_hasName 60 = .ok (.ifCond .ne 5, 3) := by decide +kernel
theorem d_E_hasName_63 : decode b_E_hasName 63 = .ok (.iconst 0, 1) := by decide +kernel
theorem d_E_hasName_64 : decode b_E_hasName 64 = .ok (.ireturn, 1) := by decide +kernel
theorem d_E_hasName_65 : decode b_E_hasName 65 = .ok (.iinc 2 1, 3) := by decide +kernel
theorem d_E_hasName_68 : decode b_E_hasName 68 = .ok (.goto (-44), 3) := by decide +kernel
theorem d_E_hasName_71 : decode b_E_hasName 71 = .ok (.iconst 1, 1) := by decide +kernel
theorem d_E_hasName_72 : decode b_E_hasName 72 = .ok (.ireturn, 1) := by decide +kernel
theorem d_E_inode_0 : decode b_E_inode 0 = .ok (.aload_n 0, 1) := by decide +kernel
theorem d_E_inode_1 : decode b_E_inode 1 = .ok (.getfield 54, 3) := by decide +kernel
theorem d_E_inode_4 : decode b_E_inode 4 = .ok (.l2i, 1) := by decide +kernel
theorem d_E_inode_5 : decode b_E_inode 5 = .ok (.ireturn, 1) := by decide +kernel
theorem d_E_order_0 : decode b_E_order 0 = .ok (.aload_n 0, 1) := by decide +kernel
theorem d_E_order_1 : decode b_E_order 1 = .ok (.getfield 36, 3) := by decide +kernel
theorem d_E_order_4 : decode b_E_order 4 = .ok (.ireturn, 1) := by decide +kernel
theorem d_E_isOneDot_0 : decode b_E_isOneDot 0 = .ok (.aload_n 0, 1) := by decide +kernel
theorem d_E_isOneDot_1 : decode b_E_isOneDot 1 = .ok (.invokevirtual 76, 3) := by decide +kernel
theorem d_E_isOneDot_4 : decode b_E_isOneDot 4 = .ok (.iconst 1, 1) := by decide +kernel
theorem d_E_isOneDot_5 : decode b_E_isOneDot 5 = .ok (.if_icmp .ne 30, 3) := by decide +kernel
theorem d_E_isOneDot_8 : decode b_E_isOneDot 8 = .ok (.aload_n 0, 1) := by decide +kernel
theorem d_E_isOneDot_9 : decode b_E_isOneDot 9 = .ok (.getfield 9, 3) := by decide +kernel
theorem d_E_isOneDot_12 : decode b_E_isOneDot 12 = .ok (.aload_n 0, 1) := by decide +kernel
theorem d_E_isOneDot_13 : decode b_E_isOneDot 13 = .ok (.getfield 45, 3) := by decide +kernel
theorem d_E_isOneDot_16 : decode b_E_isOneDot 16 = .ok (.ldc2_w 74, 3) := by decide +kernel
theorem d_E_isOneDot_19 : decode b_E_isOneDot 19 = .ok (.ladd, 1) := by decide +kernel
theorem d_E_isOneDot_20 : decode b_E_isOneDot 20 = .ok (.iconst 1, 1) := by decide +kernel
theorem d_E_isOneDot_21 : decode b_E_isOneDot 21 = .ok (.invokevirtual 48, 3) := by decide +kernel
theorem d_E_isOneDot_24 : decode b_E_isOneDot 24 = .ok (.ldc2_w 81, 3) := by decide +kernel
theorem d_E_isOneDot_27 : decode b_E_isOneDot 27 = .ok (.lcmp, 1) := by decide +kernel
theorem d_E_isOneDot_28 : decode b_E_isOneDot 28 = .ok (.ifCond .ne 7, 3) := by decide +kernel
theorem d_E_isOneDot_31 : decode b_E_isOneDot 31 = .ok (.iconst 1, 1) := by decide +kernel
theorem d_E_isOneDot_32 : decode b_E_isOneDot 32 = .ok (.goto 4, 3) := by decide +kernel
theorem d_E_isOneDot_35 : decode b_E_isOneDot 35 = .ok (.iconst 0, 1) := by decide +kernel
theorem d_E_isOneDot_36 : decode b_E_isOneDot 36 = .ok (.ireturn, 1) := by decide +kernel
theorem d_E_mark_0 : decode b_E_mark 0 = .ok (.aload_n 0, 1) := by decide +kernel
theorem d_E_mark_1 : decode b_E_mark 1 = .ok (.getfield 54, 3) := by decide +kernel
theorem d_E_mark_4 : decode b_E_mark 4 = .ok (.bipush 56, 2) := by decide +kernel
theorem d_E_mark_6 : decode b_E_mark 6 = .ok (.lushr, 1) := by decide +kernel
theorem d_E_mark_7 : decode b_E_mark 7 = .ok (.l2i, 1) := by decide +kernel
theorem d_E_mark_8 : decode b_E_mark 8 = .ok (.ireturn, 1) := by decide +kernel
theorem d_E_isTwoDots_0 : decode b_E_isTwoDots 0 = .ok (.aload_n 0, 1) := by decide +kernel
theorem d_E_isTwoDots_1 : decode b_E_isTwoDots 1 = .ok (.invokevirtual 76, 3) := by decide +kernel
theorem d_E_isTwoDots_4 : decode b_E_isTwoDots 4 = .ok (.iconst 2, 1) := by decide +kernel
theorem d_E_isTwoDots_5 : decode b_E_isTwoDots 5 = .ok (.if_icmp .ne 30, 3) := by decide +kernel
theorem d_E_isTwoDots_8 : decode b_E_isTwoDots 8 = .ok (.aload_n 0, 1) := by decide +kernel
theorem d_E_isTwoDots_9 : decode b_E_isTwoDots 9 = .ok (.getfield 9, 3) := by decide +kernel
theorem d_E_isTwoDots_12 : decode b_E_isTwoDots 12 = .ok (.aload_n 0, 1) := by decide +kernel
theorem d_E_isTwoDots_13 : decode b_E_isTwoDots 13 = .ok (.getfield 45, 3) := by decide +kernel
theorem d_E_isTwoDots_16 : decode b_E_isTwoDots 16 = .ok (.ldc2_w 74, 3) := by decide +kernel
theorem d_E_isTwoDots_19 : decode b_E_isTwoDots 19 = .ok (.ladd, 1) := by decide +kernel
theorem d_E_isTwoDots_20 : decode b_E_isTwoDots 20 = .ok (.iconst 2, 1) := by decide +kernel
theorem d_E_isTwoDots_21 : decode b_E_isTwoDots 21 = .ok (.invokevirtual 48, 3) := by decide +kernel
theorem d_E_isTwoDots_24 : decode b_E_isTwoDots 24 = .ok (.ldc2_w 83, 3) := by decide +kernel
theorem d_E_isTwoDots_27 : decode b_E_isTwoDots 27 = .ok (.lcmp, 1) := by decide +kernel
theorem d_E_isTwoDots_28 : decode b_E_isTwoDots 28 = .ok (.ifCond .ne 7, 3) := by decide +kernel
theorem d_E_isTwoDots_31 : decode b_E_isTwoDots 31 = .ok (.iconst 1, 1) := by decide +kernel
theorem d_E_isTwoDots_32 : decode b_E_isTwoDots 32 = .ok (.goto 4, 3) := by decide +kernel
theorem d_E_isTwoDots_35 : decode b_E_isTwoDots 35 = .ok (.iconst 0, 1) := by decide +kernel
theorem d_E_isTwoDots_36 : decode b_E_isTwoDots 36 = .ok (.ireturn, 1) := by decide +kernel
theorem d_E_advance_0 : decode b_E_advance 0 = .ok (.aload_n 0, 1) := by decide +kernel
theorem d_E_advance_1 : decode b_E_advance 1 = .ok (.dup, 1) := by decide +kernel
theorem d_E_advance_2 : decode b_E_advance 2 = .ok (.getfield 33, 3) := by decide +kernel
theorem d_E_advance_5 : decode b_E_advance 5 = .ok (.bipush 12, 2) := by decide +kernel
theorem d_E_advance_7 : decode b_E_advance 7 = .ok (.aload_n 0, 1) := by decide +kernel
theorem d_E_advance_8 : decode b_E_advance 8 = .ok (.invokevirtual 57, 3) := by decide +kernel
theorem d_E_advance_11 : decode b_E_advance 11 = .ok (.invokestatic 61, 3) := by decide +kernel
theorem d_E_advance_14 : decode b_E_advance 14 = .ok (.i2l, 1) := by decide +kernel
theorem d_E_advance_15 : decode b_E_advance 15 = .ok (.ladd, 1) := by decide +kernel
theorem d_E_advance_16 : decode b_E_advance 16 = .ok (.putfield 33, 3) := by decide +kernel
theorem d_E_advance_19 : decode b_E_advance 19 = .ok (.aload_n 0, 1) := by decide +kernel
theorem d_E_advance_20 : decode b_E_advance 20 = .ok (.dup, 1) := by decide +kernel
theorem d_E_advance_21 : decode b_E_advance 21 = .ok (.getfield 36, 3) := by decide +kernel
theorem d_E_advance_24 : decode b_E_advance 24 = .ok (.iconst 1, 1) := by decide +kernel
theorem d_E_advance_25 : decode b_E_advance 25 = .ok (.iadd, 1) := by decide +kernel
theorem d_E_advance_26 : decode b_E_advance 26 = .ok (.putfield 36, 3) := by decide +kernel
theorem d_E_advance_29 : decode b_E_advance 29 = .ok (.aload_n 0, 1) := by decide +kernel
theorem d_E_advance_30 : decode b_E_advance 30 = .ok (.ldc2_w 39, 3) := by decide +kernel
theorem d_E_advance_33 : decode b_E_advance 33 = .ok (.aload_n 0, 1) := by decide +kernel
theorem d_E_advance_34 : decode b_E_advance 34 = .ok (.getfield 15, 3) := by decide +kernel
theorem d_E_advance_37 : decode b_E_advance 37 = .ok (.aload_n 0, 1) := by decide +kernel
theorem d_E_advance_38 : decode b_E_advance 38 = .ok (.getfield 19, 3) := by decide +kernel
theorem d_E_advance_41 : decode b_E_advance 41 = .ok (.aload_n 0, 1) := by decide +kernel
theorem d_E_advance_42 : decode b_E_advance 42 = .ok (.getfield 33, 3) := by decide +kernel
theorem d_E_advance_45 : decode b_E_advance 45 = .ok (.ldc2_w 39, 3) := by decide +kernel
theorem d_E_advance_48 : decode b_E_advance 48 = .ok (.ldiv, 1) := by decide +kernel
theorem d_E_advance_49 : decode b_E_advance 49 = .ok (.l2i, 1) := by decide +kernel
theorem d_E_advance_50 : decode b_E_advance 50 = .ok (.invokevirtual 41, 3) := by decide +kernel
theorem d_E_advance_53 : decode b_E_advance 53 = .ok (.lmul, 1) := by decide +kernel
theorem d_E_advance_54 : decode b_E_advance 54 = .ok (.aload_n 0, 1) := by decide +kernel
theorem d_E_advance_55 : decode b_E_advance 55 = .ok (.getfield 33, 3) := by decide +kernel
theorem d_E_advance_58 : decode b_E_advance 58 = .ok (.ldc2_w 39, 3) := by decide +kernel
theorem d_E_advance_61 : decode b_E_advance 61 = .ok (.lrem, 1) := by decide +kernel
theorem d_E_advance_62 : decode b_E_advance 62 = .ok (.ladd, 1) := by decide +kernel
theorem d_E_advance_63 : decode b_E_advance 63 = .ok (.putfield 45, 3) := by decide +kernel
theorem d_E_advance_66 : decode b_E_advance 66 = .ok (.aload_n 0, 1) := by decide +kernel
theorem d_E_advance_67 : decode b_E_advance 67 = .ok (.aload_n 0, 1) := by decide +kernel
theorem d_E_advance_68 : decode b_E_advance 68 = .ok (.getfield 9, 3) := by decide +kernel
theorem d_E_advance_71 : decode b_E_advance 71 = .ok (.aload_n 0, 1) := by decide +kernel
theorem d_E_advance_72 : decode b_E_advance 72 = .ok (.getfield 45, 3) := by decide +kernel
theorem d_E_advance_75 : decode b_E_advance 75 = .ok (.bipush 8, 2) := by decide +kernel
theorem d_E_advance_77 : decode b_E_advance 77 = .ok (.invokevirtual 48, 3) := by decide +kernel
theorem d_E_advance_80 : decode b_E_advance 80 = .ok (.putfield 54, 3) := by decide +kernel
theorem d_E_advance_83 : decode b_E_advance 83 = .ok (.return_, 1) := by decide +kernel
theorem d_E_isItem_0 : decode b_E_isItem 0 = .ok (.aload_n 0, 1) := by decide +kernel
theorem d_E_isItem_1 : decode b_E_isItem 1 = .ok (.getfield 36, 3) := by decide +kernel
theorem d_E_isItem_4 : decode b_E_isItem 4 = .ok (.iconst 2, 1) := by decide +kernel
theorem d_E_isItem_5 : decode b_E_isItem 5 = .ok (.if_icmp .lt 20, 3) := by decide +kernel
theorem d_E_isItem_8 : decode b_E_isItem 8 = .ok (.aload_n 0, 1) := by decide +kernel
theorem d_E_isItem_9 : decode b_E_isItem 9 = .ok (.getfield 54, 3) := by decide +kernel
theorem d_E_isItem_12 : decode b_E_isItem 12 = .ok (.ldc2_w 67, 3) := by decide +kernel
theorem d_E_isItem_15 : decode b_E_isItem 15 = .ok (.land, 1) := by decide +kernel
theorem d_E_isItem_16 : decode b_E_isItem 16 = .ok (.lconst 0, 1) := by decide +kernel
theorem d_E_isItem_17 : decode b_E_isItem 17 = .ok (.lcmp, 1) := by decide +kernel
theorem d_E_isItem_18 : decode b_E_isItem 18 = .ok (.ifCond .eq 7, 3) := by decide +kernel
theorem d_E_isItem_21 : decode b_E_isItem 21 = .ok (.iconst 1, 1) := by decide +kernel
theorem d_E_isItem_22 : decode b_E_isItem 22 = .ok (.goto 4, 3) := by decide +kernel
theorem d_E_isItem_25 : decode b_E_isItem 25 = .ok (.iconst 0, 1) := by decide +kernel
theorem d_E_isItem_26 : decode b_E_isItem 26 = .ok (.ireturn, 1) := by decide +kernel
theorem d_E_nameByte_0 : decode b_E_nameByte 0 = .ok (.aload_n 0, 1) := by decide +kernel
theorem d_E_nameByte_1 : decode b_E_nameByte 1 = .ok (.getfield 9, 3) := by decide +kernel
theorem d_E_nameByte_4 : decode b_E_nameByte 4 = .ok (.aload_n 0, 1) := by decide +kernel
theorem d_E_nameByte_5 : decode b_E_nameByte 5 = .ok (.getfield 45, 3) := by decide +kernel
theorem d_E_nameByte_8 : decode b_E_nameByte 8 = .ok (.ldc2_w 74, 3) := by decide +kernel
theorem d_E_nameByte_11 : decode b_E_nameByte 11 = .ok (.ladd, 1) := by decide +kernel
theorem d_E_nameByte_12 : decode b_E_nameByte 12 = .ok (.iload_n 1, 1) := by decide +kernel
theorem d_E_nameByte_13 : decode b_E_nameByte 13 = .ok (.i2l, 1) := by decide +kernel
theorem d_E_nameByte_14 : decode b_E_nameByte 14 = .ok (.ladd, 1) := by decide +kernel
theorem d_E_nameByte_15 : decode b_E_nameByte 15 = .ok (.iconst 1, 1) := by decide +kernel
theorem d_E_nameByte_16 : decode b_E_nameByte 16 = .ok (.invokevirtual 48, 3) := by decide +kernel
theorem d_E_nameByte_19 : decode b_E_nameByte 19 = .ok (.l2i, 1) := by decide +kernel
theorem d_E_nameByte_20 : decode b_E_nameByte 20 = .ok (.ireturn, 1) := by decide +kernel
