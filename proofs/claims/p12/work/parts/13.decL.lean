theorem d_L_readGroups_0 : decode b_L_readGroups 0 = .ok (.aload_n 0, 1) := by decide +kernel
theorem d_L_readGroups_1 : decode b_L_readGroups 1 = .ok (.getfield 15, 3) := by decide +kernel
theorem d_L_readGroups_4 : decode b_L_readGroups 4 = .ok (.ldc2_w 19, 3) := by decide +kernel
theorem d_L_readGroups_7 : decode b_L_readGroups 7 = .ok (.iconst 4, 1) := by decide +kernel
theorem d_L_readGroups_8 : decode b_L_readGroups 8 = .ok (.invokevirtual 21, 3) := by decide +kernel
theorem d_L_readGroups_11 : decode b_L_readGroups 11 = .ok (.lstore_n 1, 1) := by decide +kernel
theorem d_L_readGroups_12 : decode b_L_readGroups 12 = .ok (.aload_n 0, 1) := by decide +kernel
theorem d_L_readGroups_13 : decode b_L_readGroups 13 = .ok (.getfield 15, 3) := by decide +kernel
theorem d_L_readGroups_16 : decode b_L_readGroups 16 = .ok (.ldc2_w 27, 3) := by decide +kernel
theorem d_L_readGroups_19 : decode b_L_readGroups 19 = .ok (.iconst 4, 1) := by decide +kernel
theorem d_L_readGroups_20 : decode b_L_readGroups 20 = .ok (.invokevirtual 21, 3) := by decide +kernel
theorem d_L_readGroups_23 : decode b_L_readGroups 23 = .ok (.lstore_n 3, 1) := by decide +kernel
theorem d_L_readGroups_24 : decode b_L_readGroups 24 = .ok (.lload_n 1, 1) := by decide +kernel
theorem d_L_readGroups_25 : decode b_L_readGroups 25 = .ok (.ldc2_w 29, 3) := by decide +kernel
theorem d_L_readGroups_28 : decode b_L_readGroups 28 = .ok (.lcmp, 1) := by decide +kernel
theorem d_L_readGroups_29 : decode b_L_readGroups 29 = .ok (.ifCond .eq 21, 3) := by decide +kernel
theorem d_L_readGroups_32 : decode b_L_readGroups 32 = .ok (.lload_n 1, 1) := by decide +kernel
theorem d_L_readGroups_33 : decode b_L_readGroups 33 = .ok (.ldc2_w 31, 3) := by decide +kernel
theorem d_L_readGroups_36 : decode b_L_readGroups 36 = .ok (.lcmp, 1) := by decide +kernel
theorem d_L_readGroups_37 : decode b_L_readGroups 37 = .ok (.ifCond .eq 13, 3) := by decide +kernel
theorem d_L_readGroups_40 : decode b_L_readGroups 40 = .ok (.lload_n 1, 1) := by decide +kernel
theorem d_L_readGroups_41 : decode b_L_readGroups 41 = .ok (.ldc2_w 33, 3) := by decide +kernel
theorem d_L_readGroups_44 : decode b_L_readGroups 44 = .ok (.lcmp, 1) := by decide +kernel
theorem d_L_readGroups_45 : decode b_L_readGroups 45 = .ok (.ifCond .eq 5, 3) := by decide +kernel
theorem d_L_readGroups_48 : decode b_L_readGroups 48 = .ok (.iconst 0, 1) := by decide +kernel
theorem d_L_readGroups_49 : decode b_L_readGroups 49 = .ok (.ireturn, 1) := by decide +kernel
theorem d_L_readGroups_50 : decode b_L_readGroups 50 = .ok (.lload_n 3, 1) := by decide +kernel
theorem d_L_readGroups_51 : decode b_L_readGroups 51 = .ok (.ldc2_w 35, 3) := by decide +kernel
theorem d_L_readGroups_54 : decode b_L_readGroups 54 = .ok (.lcmp, 1) := by decide +kernel
theorem d_L_readGroups_55 : decode b_L_readGroups 55 = .ok (.ifCond .lt 21, 3) := by decide +kernel
theorem d_L_readGroups_58 : decode b_L_readGroups 58 = .ok (.lload_n 3, 1) := by decide +kernel
theorem d_L_readGroups_59 : decode b_L_readGroups 59 = .ok (.ldc2_w 37, 3) := by decide +kernel
theorem d_L_readGroups_62 : decode b_L_readGroups 62 = .ok (.lcmp, 1) := by decide +kernel
theorem d_L_readGroups_63 : decode b_L_readGroups 63 = .ok (.ifCond .gt 13, 3) := by decide +kernel
theorem d_L_readGroups_66 : decode b_L_readGroups 66 = .ok (.lload_n 3, 1) := by decide +kernel
theorem d_L_readGroups_67 : decode b_L_readGroups 67 = .ok (.ldc2_w 35, 3) := by decide +kernel
theorem d_L_readGroups_70 : decode b_L_readGroups 70 = .ok (.lrem, 1) := by decide +kernel
theorem d_L_readGroups_71 : decode b_L_readGroups 71 = .ok (.lconst 0, 1) := by decide +kernel
theorem d_L_readGroups_72 : decode b_L_readGroups 72 = .ok (.lcmp, 1) := by decide +kernel
theorem d_L_readGroups_73 : decode b_L_readGroups 73 = .ok (.ifCond .eq 5, 3) := by decide +kernel
theorem d_L_readGroups_76 : decode b_L_readGroups 76 = .ok (.iconst 0, 1) := by decide +kernel
theorem d_L_readGroups_77 : decode b_L_readGroups 77 = .ok (.ireturn, 1) := by decide +kernel
theorem d_L_readGroups_78 : decode b_L_readGroups 78 = .ok (.aload_n 0, 1) := by decide +kernel
theorem d_L_readGroups_79 : decode b_L_readGroups 79 = .ok (.lload_n 1, 1) := by decide +kernel
theorem d_L_readGroups_80 : decode b_L_readGroups 80 = .ok (.l2i, 1) := by decide +kernel
theorem d_L_readGroups_81 : decode b_L_readGroups 81 = .ok (.putfield 39, 3) := by decide +kernel
theorem d_L_readGroups_84 : decode b_L_readGroups 84 = .ok (.aload_n 0, 1) := by decide +kernel
theorem d_L_readGroups_85 : decode b_L_readGroups 85 = .ok (.lload_n 3, 1) := by decide +kernel
theorem d_L_readGroups_86 : decode b_L_readGroups 86 = .ok (.l2i, 1) := by decide +kernel
theorem d_L_readGroups_87 : decode b_L_readGroups 87 = .ok (.putfield 43, 3) := by decide +kernel
theorem d_L_readGroups_90 : decode b_L_readGroups 90 = .ok (.aload_n 0, 1) := by decide +kernel
theorem d_L_readGroups_91 : decode b_L_readGroups 91 = .ok (.aload_n 0, 1) := by decide +kernel
theorem d_L_readGroups_92 : decode b_L_readGroups 92 = .ok (.getfield 15, 3) := by decide +kernel
theorem d_L_readGroups_95 : decode b_L_readGroups 95 = .ok (.invokevirtual 46, 3) := by decide +kernel
theorem d_L_readGroups_98 : decode b_L_readGroups 98 = .ok (.iconst 1, 1) := by decide +kernel
theorem d_L_readGroups_99 : decode b_L_readGroups 99 = .ok (.isub, 1) := by decide +kernel
theorem d_L_readGroups_100 : decode b_L_readGroups 100 = .ok (.aload_n 0, 1) := by decide +kernel
theorem d_L_readGroups_101 : decode b_L_readGroups 101 = .ok (.getfield 39, 3) := by decide +kernel
theorem d_L_readGroups_104 : decode b_L_readGroups 104 = .ok (.iadd, 1) := by decide +kernel
theorem d_L_readGroups_105 : decode b_L_readGroups 105 = .ok (.iconst 1, 1) := by decide +kernel
theorem d_L_readGroups_106 : decode b_L_readGroups 106 = .ok (.isub, 1) := by decide +kernel
theorem d_L_readGroups_107 : decode b_L_readGroups 107 = .ok (.aload_n 0, 1) := by decide +kernel
theorem d_L_readGroups_108 : decode b_L_readGroups 108 = .ok (.getfield 39, 3) := by decide +kernel
theorem d_L_readGroups_111 : decode b_L_readGroups 111 = .ok (.idiv, 1) := by decide +kernel
theorem d_L_readGroups_112 : decode b_L_readGroups 112 = .ok (.putfield 50, 3) := by decide +kernel
theorem d_L_readGroups_115 : decode b_L_readGroups 115 = .ok (.aload_n 0, 1) := by decide +kernel
theorem d_L_readGroups_116 : decode b_L_readGroups 116 = .ok (.aload_n 0, 1) := by decide +kernel
theorem d_L_readGroups_117 : decode b_L_readGroups 117 = .ok (.getfield 50, 3) := by decide +kernel
theorem d_L_readGroups_120 : decode b_L_readGroups 120 = .ok (.aload_n 0, 1) := by decide +kernel
theorem d_L_readGroups_121 : decode b_L_readGroups 121 = .ok (.getfield 43, 3) := by decide +kernel
theorem d_L_readGroups_124 : decode b_L_readGroups 124 = .ok (.imul, 1) := by decide +kernel
theorem d_L_readGroups_125 : decode b_L_readGroups 125 = .ok (.putfield 53, 3) := by decide +kernel
theorem d_L_readGroups_128 : decode b_L_readGroups 128 = .ok (.iconst 1, 1) := by decide +kernel
theorem d_L_readGroups_129 : decode b_L_readGroups 129 = .ok (.ireturn, 1) := by decide +kernel
theorem d_L_inodes_0 : decode b_L_inodes 0 = .ok (.aload_n 0, 1) := by decide +kernel
theorem d_L_inodes_1 : decode b_L_inodes 1 = .ok (.getfield 53, 3) := by decide +kernel
theorem d_L_inodes_4 : decode b_L_inodes 4 = .ok (.ireturn, 1) := by decide +kernel
theorem d_L_groupBlocks_0 : decode b_L_groupBlocks 0 = .ok (.aload_n 0, 1) := by decide +kernel
theorem d_L_groupBlocks_1 : decode b_L_groupBlocks 1 = .ok (.getfield 39, 3) := by decide +kernel
theorem d_L_groupBlocks_4 : decode b_L_groupBlocks 4 = .ok (.ireturn, 1) := by decide +kernel
theorem d_L_groups_0 : decode b_L_groups 0 = .ok (.aload_n 0, 1) := by decide +kernel
theorem d_L_groups_1 : decode b_L_groups 1 = .ok (.getfield 50, 3) := by decide +kernel
theorem d_L_groups_4 : decode b_L_groups 4 = .ok (.ireturn, 1) := by decide +kernel
theorem d_L_firstBlock_0 : decode b_L_firstBlock 0 = .ok (.iconst 1, 1) := by decide +kernel
theorem d_L_firstBlock_1 : decode b_L_firstBlock 1 = .ok (.iload_n 1, 1) := by decide +kernel
theorem d_L_firstBlock_2 : decode b_L_firstBlock 2 = .ok (.aload_n 0, 1) := by decide +kernel
theorem d_L_firstBlock_3 : decode b_L_firstBlock 3 = .ok (.getfield 39, 3) := by decide +kernel
theorem d_L_firstBlock_6 : decode b_L_firstBlock 6 = .ok (.imul, 1) := by decide +kernel
theorem d_L_firstBlock_7 : decode b_L_firstBlock 7 = .ok (.iadd, 1) := by decide +kernel
theorem d_L_firstBlock_8 : decode b_L_firstBlock 8 = .ok (.ireturn, 1) := by decide +kernel
theorem d_L_blocksOf_0 : decode b_L_blocksOf 0 = .ok (.aload_n 0, 1) := by decide +kernel
theorem d_L_blocksOf_1 : decode b_L_blocksOf 1 = .ok (.getfield 39, 3) := by decide +kernel
theorem d_L_blocksOf_4 : decode b_L_blocksOf 4 = .ok (.aload_n 0, 1) := by decide +kernel
theorem d_L_blocksOf_5 : decode b_L_blocksOf 5 = .ok (.getfield 15, 3) := by decide +kernel
theorem d_L_blocksOf_8 : decode b_L_blocksOf 8 = .ok (.invokevirtual 46, 3) := by decide +kernel
theorem d_L_blocksOf_11 : decode b_L_blocksOf 11 = .ok (.aload_n 0, 1) := by decide +kernel
theorem d_L_blocksOf_12 : decode b_L_blocksOf 12 = .ok (.iload_n 1, 1) := by decide +kernel
theorem d_L_blocksOf_13 : decode b_L_blocksOf 13 = .ok (.invokevirtual 56, 3) := by decide +kernel
theorem d_L_blocksOf_16 : decode b_L_blocksOf 16 = .ok (.isub, 1) := by decide +kernel
theorem d_L_blocksOf_17 : decode b_L_blocksOf 17 = .ok (.invokestatic 60, 3) := by decide +kernel
theorem d_L_blocksOf_20 : decode b_L_blocksOf 20 = .ok (.ireturn, 1) := by decide +kernel
theorem d_L_groupInodes_0 : decode b_L_groupInodes 0 = .ok (.aload_n 0, 1) := by decide +kernel
theorem d_L_groupInodes_1 : decode b_L_groupInodes 1 = .ok (.getfield 43, 3) := by decide +kernel
theorem d_L_groupInodes_4 : decode b_L_groupInodes 4 = .ok (.ireturn, 1) := by decide +kernel
theorem d_L_described_0 : decode b_L_described 0 = .ok (.aload_n 0, 1) := by decide +kernel
theorem d_L_described_1 : decode b_L_described 1 = .ok (.getfield 15, 3) := by decide +kernel
theorem d_L_described_4 : decode b_L_described 4 = .ok (.sipush 2048, 3) := by decide +kernel
theorem d_L_described_7 : decode b_L_described 7 = .ok (.bipush 32, 2) := by decide +kernel
theorem d_L_described_9 : decode b_L_described 9 = .ok (.iload_n 1, 1) := by decide +kernel
theorem d_L_described_10 : decode b_L_described 10 = .ok (.imul, 1) := by decide +kernel
theorem d_L_described_11 : decode b_L_described 11 = .ok (.iadd, 1) := by decide +kernel
theorem d_L_described_12 : decode b_L_described 12 = .ok (.iload_n 2, 1) := by decide +kernel
theorem d_L_described_13 : decode b_L_described 13 = .ok (.iadd, 1) := by decide +kernel
theorem d_L_described_14 : decode b_L_described 14 = .ok (.i2l, 1) := by decide +kernel
theorem d_L_described_15 : decode b_L_described 15 = .ok (.iload_n 3, 1) := by decide +kernel
theorem d_L_described_16 : decode b_L_described 16 = .ok (.invokevirtual 21, 3) := by decide +kernel
theorem d_L_described_19 : decode b_L_described 19 = .ok (.lreturn, 1) := by decide +kernel
theorem d_L_setMap_0 : decode b_L_setMap 0 = .ok (.iload_n 1, 1) := by decide +kernel
theorem d_L_setMap_1 : decode b_L_setMap 1 = .ok (.ifCond .lt 16, 3) := by decide +kernel
theorem d_L_setMap_4 : decode b_L_setMap 4 = .ok (.iload_n 1, 1) := by decide +kernel
theorem d_L_setMap_5 : decode b_L_setMap 5 = .ok (.bipush 8, 2) := by decide +kernel
theorem d_L_setMap_7 : decode b_L_setMap 7 = .ok (.if_icmp .ge 10, 3) := by decide +kernel
theorem d_L_setMap_10 : decode b_L_setMap 10 = .ok (.aload_n 0, 1) := by decide +kernel
theorem d_L_setMap_11 : decode b_L_setMap 11 = .ok (.getfield 9, 3) := by decide +kernel
theorem d_L_setMap_14 : decode b_L_setMap 14 = .ok (.iload_n 1, 1) := by decide +kernel
theorem d_L_setMap_15 : decode b_L_setMap 15 = .ok (.iload_n 2, 1) := by decide +kernel
theorem d_L_setMap_16 : decode b_L_setMap 16 = .ok (.iastore, 1) := by decide +kernel
theorem d_L_setMap_17 : decode b_L_setMap 17 = .ok (.return_, 1) := by decide +kernel
theorem d_L_groupOf_0 : decode b_L_groupOf 0 = .ok (.iload_n 1, 1) := by decide +kernel
theorem d_L_groupOf_1 : decode b_L_groupOf 1 = .ok (.iconst 1, 1) := by decide +kernel
theorem d_L_groupOf_2 : decode b_L_groupOf 2 = .ok (.if_icmp .lt 21, 3) := by decide +kernel
theorem d_L_groupOf_5 : decode b_L_groupOf 5 = .ok (.aload_n 0, 1) := by decide +kernel
theorem d_L_groupOf_6 : decode b_L_groupOf 6 = .ok (.getfield 43, 3) := by decide +kernel
theorem d_L_groupOf_9 : decode b_L_groupOf 9 = .ok (.ifCond .le 14, 3) := by decide +kernel
theorem d_L_groupOf_12 : decode b_L_groupOf 12 = .ok (.iload_n 1, 1) := by decide +kernel
theorem d_L_groupOf_13 : decode b_L_groupOf 13 = .ok (.iconst 1, 1) := by decide +kernel
theorem d_L_groupOf_14 : decode b_L_groupOf 14 = .ok (.isub, 1) := by decide +kernel
theorem d_L_groupOf_15 : decode b_L_groupOf 15 = .ok (.aload_n 0, 1) := by decide +kernel
theorem d_L_groupOf_16 : decode b_L_groupOf 16 = .ok (.getfield 43, 3) := by decide +kernel
theorem d_L_groupOf_19 : decode b_L_groupOf 19 = .ok (.idiv, 1) := by decide +kernel
theorem d_L_groupOf_20 : decode b_L_groupOf 20 = .ok (.goto 4, 3) := by decide +kernel
theorem d_L_groupOf_23 : decode b_L_groupOf 23 = .ok (.iconst (-1), 1) := by decide +kernel
theorem d_L_groupOf_24 : decode b_L_groupOf 24 = .ok (.ireturn, 1) := by decide +kernel
theorem d_L_isUsed_0 : decode b_L_isUsed 0 = .ok (.aload_n 0, 1) := by decide +kernel
theorem d_L_isUsed_1 : decode b_L_isUsed 1 = .ok (.iload_n 1, 1) := by decide +kernel
theorem d_L_isUsed_2 : decode b_L_isUsed 2 = .ok (.invokevirtual 74, 3) := by decide +kernel
theorem d_L_isUsed_5 : decode b_L_isUsed 5 = .ok (.istore_n 2, 1) := by decide +kernel
theorem d_L_isUsed_6 : decode b_L_isUsed 6 = .ok (.iload_n 2, 1) := by decide +kernel
theorem d_L_isUsed_7 : decode b_L_isUsed 7 = .ok (.ifCond .lt 9, 3) := by decide +kernel
theorem d_L_isUsed_10 : decode b_L_isUsed 10 = .ok (.iload_n 2, 1) := by decide +kernel
theorem d_L_isUsed_11 : decode b_L_isUsed 11 = .ok (.bipush 8, 2) := by decide +kernel
theorem d_L_isUsed_13 : decode b_L_isUsed 13 = .ok (.if_icmp .lt 5, 3) := by decide +kernel
theorem d_L_isUsed_16 : decode b_L_isUsed 16 = .ok (.iconst 0, 1) := by decide +kernel
theorem d_L_isUsed_17 : decode b_L_isUsed 17 = .ok (.ireturn, 1) := by decide +kernel
theorem d_L_isUsed_18 : decode b_L_isUsed 18 = .ok (.iload_n 1, 1) := by decide +kernel
theorem d_L_isUsed_19 : decode b_L_isUsed 19 = .ok (.iconst 1, 1) := by decide +kernel
theorem d_L_isUsed_20 : decode b_L_isUsed 20 = .ok (.isub, 1) := by decide +kernel
theorem d_L_isUsed_21 : decode b_L_isUsed 21 = .ok (.iload_n 2, 1) := by decide +kernel
theorem d_L_isUsed_22 : decode b_L_isUsed 22 = .ok (.aload_n 0, 1) := by decide +kernel
theorem d_L_isUsed_23 : decode b_L_isUsed 23 = .ok (.getfield 43, 3) := by decide +kernel
theorem d_L_isUsed_26 : decode b_L_isUsed 26 = .ok (.imul, 1) := by decide +kernel
theorem d_L_isUsed_27 : decode b_L_isUsed 27 = .ok (.isub, 1) := by decide +kernel
theorem d_L_isUsed_28 : decode b_L_isUsed 28 = .ok (.istore_n 3, 1) := by decide +kernel
theorem d_L_isUsed_29 : decode b_L_isUsed 29 = .ok (.aload_n 0, 1) := by decide +kernel
theorem d_L_isUsed_30 : decode b_L_isUsed 30 = .ok (.getfield 15, 3) := by decide +kernel
theorem d_L_isUsed_33 : decode b_L_isUsed 33 = .ok (.ldc2_w 66, 3) := by decide +kernel
theorem d_L_isUsed_36 : decode b_L_isUsed 36 = .ok (.aload_n 0, 1) := by decide +kernel
theorem d_L_isUsed_37 : decode b_L_isUsed 37 = .ok (.getfield 9, 3) := by decide +kernel
theorem d_L_isUsed_40 : decode b_L_isUsed 40 = .ok (.iload_n 2, 1) := by decide +kernel
theorem d_L_isUsed_41 : decode b_L_isUsed 41 = .ok (.iaload, 1) := by decide +kernel
theorem d_L_isUsed_42 : decode b_L_isUsed 42 = .ok (.iconst 1, 1) := by decide +kernel
theorem d_L_isUsed_43 : decode b_L_isUsed 43 = .ok (.iadd, 1) := by decide +kernel
theorem d_L_isUsed_44 : decode b_L_isUsed 44 = .ok (.i2l, 1) := by decide +kernel
theorem d_L_isUsed_45 : decode b_L_isUsed 45 = .ok (.lmul, 1) := by decide +kernel
theorem d_L_isUsed_46 : decode b_L_isUsed 46 = .ok (.iload_n 3, 1) := by decide +kernel
theorem d_L_isUsed_47 : decode b_L_isUsed 47 = .ok (.bipush 8, 2) := by decide +kernel
theorem d_L_isUsed_49 : decode b_L_isUsed 49 = .ok (.idiv, 1) := by decide +kernel
theorem d_L_isUsed_50 : decode b_L_isUsed 50 = .ok (.i2l, 1) := by decide +kernel
theorem d_L_isUsed_51 : decode b_L_isUsed 51 = .ok (.ladd, 1) := by decide +kernel
theorem d_L_isUsed_52 : decode b_L_isUsed 52 = .ok (.iconst 1, 1) := by decide +kernel
theorem d_L_isUsed_53 : decode b_L_isUsed 53 = .ok (.invokevirtual 21, 3) := by decide +kernel
theorem d_L_isUsed_56 : decode b_L_isUsed 56 = .ok (.iload_n 3, 1) := by decide +kernel
theorem d_L_isUsed_57 : decode b_L_isUsed 57 = .ok (.bipush 8, 2) := by decide +kernel
theorem d_L_isUsed_59 : decode b_L_isUsed 59 = .ok (.irem, 1) := by decide +kernel
theorem d_L_isUsed_60 : decode b_L_isUsed 60 = .ok (.lshr, 1) := by decide +kernel
theorem d_L_isUsed_61 : decode b_L_isUsed 61 = .ok (.lconst 1, 1) := by decide +kernel
theorem d_L_isUsed_62 : decode b_L_isUsed 62 = .ok (.land, 1) := by decide +kernel
theorem d_L_isUsed_63 : decode b_L_isUsed 63 = .ok (.lconst 0, 1) := by decide +kernel
theorem d_L_isUsed_64 : decode b_L_isUsed 64 = .ok (.lcmp, 1) := by decide +kernel
theorem d_L_isUsed_65 : decode b_L_isUsed 65 = .ok (.ifCond .eq 7, 3) := by decide +kernel
theorem d_L_isUsed_68 : decode b_L_isUsed 68 = .ok (.iconst 1, 1) := by decide +kernel
theorem d_L_isUsed_69 : decode b_L_isUsed 69 = .ok (.goto 4, 3) := by decide +kernel
theorem d_L_isUsed_72 : decode b_L_isUsed 72 = .ok (.iconst 0, 1) := by decide +kernel
theorem d_L_isUsed_73 : decode b_L_isUsed 73 = .ok (.ireturn, 1) := by decide +kernel
theorem d_L_inodePlace_0 : decode b_L_inodePlace 0 = .ok (.iload_n 1, 1) := by decide +kernel
theorem d_L_inodePlace_1 : decode b_L_inodePlace 1 = .ok (.iconst 1, 1) := by decide +kernel
theorem d_L_inodePlace_2 : decode b_L_inodePlace 2 = .ok (.if_icmp .lt 11, 3) := by decide +kernel
theorem d_L_inodePlace_5 : decode b_L_inodePlace 5 = .ok (.aload_n 0, 1) := by decide +kernel
theorem d_L_inodePlace_6 : decode b_L_inodePlace 6 = .ok (.getfield 43, 3) := by decide +kernel
theorem d_L_inodePlace_9 : decode b_L_inodePlace 9 = .ok (.iconst 1, 1) := by decide +kernel
theorem d_L_inodePlace_10 : decode b_L_inodePlace 10 = .ok (.if_icmp .ge 7, 3) := by decide +kernel
theorem d_L_inodePlace_13 : decode b_L_inodePlace 13 = .ok (.ldc2_w 68, 3) := by decide +kernel
theorem d_L_inodePlace_16 : decode b_L_inodePlace 16 = .ok (.lreturn, 1) := by decide +kernel
theorem d_L_inodePlace_17 : decode b_L_inodePlace 17 = .ok (.iload_n 1, 1) := by decide +kernel
theorem d_L_inodePlace_18 : decode b_L_inodePlace 18 = .ok (.iconst 1, 1) := by decide +kernel
theorem d_L_inodePlace_19 : decode b_L_inodePlace 19 = .ok (.isub, 1) := by decide +kernel
theorem d_L_inodePlace_20 : decode b_L_inodePlace 20 = .ok (.aload_n 0, 1) := by decide +kernel
theorem d_L_inodePlace_21 : decode b_L_inodePlace 21 = .ok (.getfield 43, 3) := by decide +kernel
theorem d_L_inodePlace_24 : decode b_L_inodePlace 24 = .ok (.idiv, 1) := by decide +kernel
theorem d_L_inodePlace_25 : decode b_L_inodePlace 25 = .ok (.istore_n 2, 1) := by decide +kernel
theorem d_L_inodePlace_26 : decode b_L_inodePlace 26 = .ok (.iload_n 2, 1) := by decide +kernel
theorem d_L_inodePlace_27 : decode b_L_inodePlace 27 = .ok (.bipush 8, 2) := by decide +kernel
theorem d_L_inodePlace_29 : decode b_L_inodePlace 29 = .ok (.if_icmp .lt 7, 3) := by decide +kernel
theorem d_L_inodePlace_32 : decode b_L_inodePlace 32 = .ok (.ldc2_w 68, 3) := by decide +kernel
theorem d_L_inodePlace_35 : decode b_L_inodePlace 35 = .ok (.lreturn, 1) := by decide +kernel
theorem d_L_inodePlace_36 : decode b_L_inodePlace 36 = .ok (.ldc2_w 66, 3) := by decide +kernel
theorem d_L_inodePlace_39 : decode b_L_inodePlace 39 = .ok (.aload_n 0, 1) := by decide +kernel
theorem d_L_inodePlace_40 : decode b_L_inodePlace 40 = .ok (.getfield 9, 3) := by decide +kernel
theorem d_L_inodePlace_43 : decode b_L_inodePlace 43 = .ok (.iload_n 2, 1) := by decide +kernel
theorem d_L_inodePlace_44 : decode b_L_inodePlace 44 = .ok (.iaload, 1) := by decide +kernel
theorem d_L_inodePlace_45 : decode b_L_inodePlace 45 = .ok (.iconst 2, 1) := by decide +kernel
theorem d_L_inodePlace_46 : decode b_L_inodePlace 46 = .ok (.iadd, 1) := by decide +kernel
theorem d_L_inodePlace_47 : decode b_L_inodePlace 47 = .ok (.i2l, 1) := by decide +kernel
theorem d_L_inodePlace_48 : decode b_L_inodePlace 48 = .ok (.lmul, 1) := by decide +kernel
theorem d_L_inodePlace_49 : decode b_L_inodePlace 49 = .ok (.sipush 128, 3) := by decide +kernel
theorem d_L_inodePlace_52 : decode b_L_inodePlace 52 = .ok (.iload_n 1, 1) := by decide +kernel
theorem d_L_inodePlace_53 : decode b_L_inodePlace 53 = .ok (.iconst 1, 1) := by decide +kernel
theorem d_L_inodePlace_54 : decode b_L_inodePlace 54 = .ok (.isub, 1) := by decide +kernel
theorem d_L_inodePlace_55 : decode b_L_inodePlace 55 = .ok (.iload_n 2, 1) := by decide +kernel
theorem d_L_inodePlace_56 : decode b_L_inodePlace 56 = .ok (.aload_n 0, 1) := by decide +kernel
theorem d_L_inodePlace_57 : decode b_L_inodePlace 57 = .ok (.getfield 43, 3) := by decide +kernel
theorem d_L_inodePlace_60 : decode b_L_inodePlace 60 = .ok (.imul, 1) := by decide +kernel
theorem d_L_inodePlace_61 : decode b_L_inodePlace 61 = .ok (.isub, 1) := by decide +kernel
theorem d_L_inodePlace_62 : decode b_L_inodePlace 62 = .ok (.imul, 1) := by decide +kernel
theorem d_L_inodePlace_63 : decode b_L_inodePlace 63 = .ok (.i2l, 1) := by decide +kernel
theorem d_L_inodePlace_64 : decode b_L_inodePlace 64 = .ok (.ladd, 1) := by decide +kernel
theorem d_L_inodePlace_65 : decode b_L_inodePlace 65 = .ok (.lreturn, 1) := by decide +kernel
theorem d_L_typeOf_0 : decode b_L_typeOf 0 = .ok (.aload_n 0, 1) := by decide +kernel
theorem d_L_typeOf_1 : decode b_L_typeOf 1 = .ok (.getfield 15, 3) := by decide +kernel
theorem d_L_typeOf_4 : decode b_L_typeOf 4 = .ok (.aload_n 0, 1) := by decide +kernel
theorem d_L_typeOf_5 : decode b_L_typeOf 5 = .ok (.iload_n 1, 1) := by decide +kernel
theorem d_L_typeOf_6 : decode b_L_typeOf 6 = .ok (.invokevirtual 77, 3) := by decide +kernel
theorem d_L_typeOf_9 : decode b_L_typeOf 9 = .ok (.iconst 2, 1) := by decide +kernel
theorem d_L_typeOf_10 : decode b_L_typeOf 10 = .ok (.invokevirtual 21, 3) := by decide +kernel
theorem d_L_typeOf_13 : decode b_L_typeOf 13 = .ok (.l2i, 1) := by decide +kernel
theorem d_L_typeOf_14 : decode b_L_typeOf 14 = .ok (.ldc 80, 2) := by decide +kernel
theorem d_L_typeOf_16 : decode b_L_typeOf 16 = .ok (.iand, 1) := by decide +kernel
theorem d_L_typeOf_17 : decode b_L_typeOf 17 = .ok (.ireturn, 1) := by decide +kernel
theorem d_L_sizeOf_0 : decode b_L_sizeOf 0 = .ok (.aload_n 0, 1) := by decide +kernel
theorem d_L_sizeOf_1 : decode b_L_sizeOf 1 = .ok (.getfield 15, 3) := by decide +kernel
theorem d_L_sizeOf_4 : decode b_L_sizeOf 4 = .ok (.aload_n 0, 1) := by decide +kernel
theorem d_L_sizeOf_5 : decode b_L_sizeOf 5 = .ok (.iload_n 1, 1) := by decide +kernel
theorem d_L_sizeOf_6 : decode b_L_sizeOf 6 = .ok (.invokevirtual 77, 3) := by decide +kernel
theorem d_L_sizeOf_9 : decode b_L_sizeOf 9 = .ok (.ldc2_w 81, 3) := by decide +kernel
theorem d_L_sizeOf_12 : decode b_L_sizeOf 12 = .ok (.ladd, 1) := by decide +kernel
theorem d_L_sizeOf_13 : decode b_L_sizeOf 13 = .ok (.iconst 4, 1) := by decide +kernel
theorem d_L_sizeOf_14 : decode b_L_sizeOf 14 = .ok (.invokevirtual 21, 3) := by decide +kernel
theorem d_L_sizeOf_17 : decode b_L_sizeOf 17 = .ok (.lreturn, 1) := by decide +kernel
theorem d_L_blocksFor_0 : decode b_L_blocksFor 0 = .ok (.lload_n 1, 1) := by decide +kernel
theorem d_L_blocksFor_1 : decode b_L_blocksFor 1 = .ok (.ldc2_w 66, 3) := by decide +kernel
theorem d_L_blocksFor_4 : decode b_L_blocksFor 4 = .ok (.ladd, 1) := by decide +kernel
theorem d_L_blocksFor_5 : decode b_L_blocksFor 5 = .ok (.lconst 1, 1) := by decide +kernel
theorem d_L_blocksFor_6 : decode b_L_blocksFor 6 = .ok (.lsub, 1) := by decide +kernel
theorem d_L_blocksFor_7 : decode b_L_blocksFor 7 = .ok (.ldc2_w 66, 3) := by decide +kernel
theorem d_L_blocksFor_10 : decode b_L_blocksFor 10 = .ok (.ldiv, 1) := by decide +kernel
theorem d_L_blocksFor_11 : decode b_L_blocksFor 11 = .ok (.l2i, 1) := by decide +kernel
theorem d_L_blocksFor_12 : decode b_L_blocksFor 12 = .ok (.ireturn, 1) := by decide +kernel
theorem d_L_field_0 : decode b_L_field 0 = .ok (.aload_n 0, 1) := by decide +kernel
theorem d_L_field_1 : decode b_L_field 1 = .ok (.getfield 15, 3) := by decide +kernel
theorem d_L_field_4 : decode b_L_field 4 = .ok (.aload_n 0, 1) := by decide +kernel
theorem d_L_field_5 : decode b_L_field 5 = .ok (.iload_n 1, 1) := by decide +kernel
theorem d_L_field_6 : decode b_L_field 6 = .ok (.invokevirtual 77, 3) := by decide +kernel
theorem d_L_field_9 : decode b_L_field 9 = .ok (.iload_n 2, 1) := by decide +kernel
theorem d_L_field_10 : decode b_L_field 10 = .ok (.i2l, 1) := by decide +kernel
theorem d_L_field_11 : decode b_L_field 11 = .ok (.ladd, 1) := by decide +kernel
theorem d_L_field_12 : decode b_L_field 12 = .ok (.iload_n 3, 1) := by decide +kernel
theorem d_L_field_13 : decode b_L_field 13 = .ok (.invokevirtual 21, 3) := by decide +kernel
theorem d_L_field_16 : decode b_L_field 16 = .ok (.lreturn, 1) := by decide +kernel
theorem d_L_blockOf_0 : decode b_L_blockOf 0 = .ok (.aload_n 0, 1) := by decide +kernel
theorem d_L_blockOf_1 : decode b_L_blockOf 1 = .ok (.iload_n 1, 1) := by decide +kernel
theorem d_L_blockOf_2 : decode b_L_blockOf 2 = .ok (.invokevirtual 77, 3) := by decide +kernel
theorem d_L_blockOf_5 : decode b_L_blockOf 5 = .ok (.lstore_n 3, 1) := by decide +kernel
theorem d_L_blockOf_6 : decode b_L_blockOf 6 = .ok (.iload_n 2, 1) := by decide +kernel
theorem d_L_blockOf_7 : decode b_L_blockOf 7 = .ok (.bipush 12, 2) := by decide +kernel
theorem d_L_blockOf_9 : decode b_L_blockOf 9 = .ok (.if_icmp .ge 22, 3) := by decide +kernel
theorem d_L_blockOf_12 : decode b_L_blockOf 12 = .ok (.aload_n 0, 1) := by decide +kernel
theorem d_L_blockOf_13 : decode b_L_blockOf 13 = .ok (.getfield 15, 3) := by decide +kernel
theorem d_L_blockOf_16 : decode b_L_blockOf 16 = .ok (.lload_n 3, 1) := by decide +kernel
theorem d_L_blockOf_17 : decode b_L_blockOf 17 = .ok (.ldc2_w 83, 3) := by decide +kernel
theorem d_L_blockOf_20 : decode b_L_blockOf 20 = .ok (.ladd, 1) := by decide +kernel
theorem d_L_blockOf_21 : decode b_L_blockOf 21 = .ok (.iconst 4, 1) := by decide +kernel
theorem d_L_blockOf_22 : decode b_L_blockOf 22 = .ok (.iload_n 2, 1) := by decide +kernel
theorem d_L_blockOf_23 : decode b_L_blockOf 23 = .ok (.imul, 1) := by decide +kernel
theorem d_L_blockOf_24 : decode b_L_blockOf 24 = .ok (.i2l, 1) := by decide +kernel
theorem d_L_blockOf_25 : decode b_L_blockOf 25 = .ok (.ladd, 1) := by decide +kernel
theorem d_L_blockOf_26 : decode b_L_blockOf 26 = .ok (.iconst 4, 1) := by decide +kernel
theorem d_L_blockOf_27 : decode b_L_blockOf 27 = .ok (.invokevirtual 21, 3) := by decide +kernel
theorem d_L_blockOf_30 : decode b_L_blockOf 30 = .ok (.lreturn, 1) := by decide +kernel
theorem d_L_blockOf_31 : decode b_L_blockOf 31 = .ok (.iload_n 2, 1) := by decide +kernel
theorem d_L_blockOf_32 : decode b_L_blockOf 32 = .ok (.sipush 268, 3) := by decide +kernel
theorem d_L_blockOf_35 : decode b_L_blockOf 35 = .ok (.if_icmp .ge 37, 3) := by decide +kernel
theorem d_L_blockOf_38 : decode b_L_blockOf 38 = .ok (.aload_n 0, 1) := by decide +kernel
theorem d_L_blockOf_39 : decode b_L_blockOf 39 = .ok (.getfield 15, 3) := by decide +kernel
theorem d_L_blockOf_42 : decode b_L_blockOf 42 = .ok (.ldc2_w 66, 3) := by decide +kernel
theorem d_L_blockOf_45 : decode b_L_blockOf 45 = .ok (.aload_n 0, 1) := by decide +kernel
theorem d_L_blockOf_46 : decode b_L_blockOf 46 = .ok (.getfield 15, 3) := by decide +kernel
theorem d_L_blockOf_49 : decode b_L_blockOf 49 = .ok (.lload_n 3, 1) := by decide +kernel
theorem d_L_blockOf_50 : decode b_L_blockOf 50 = .ok (.ldc2_w 85, 3) := by decide +kernel
theorem d_L_blockOf_53 : decode b_L_blockOf 53 = .ok (.ladd, 1) := by decide +kernel
theorem d_L_blockOf_54 : decode b_L_blockOf 54 = .ok (.iconst 4, 1) := by decide +kernel
theorem d_L_blockOf_55 : decode b_L_blockOf 55 = .ok (.invokevirtual 21, 3) := by decide +kernel
theorem d_L_blockOf_58 : decode b_L_blockOf 58 = .ok (.lmul, 1) := by decide +kernel
theorem d_L_blockOf_59 : decode b_L_blockOf 59 = .ok (.iconst 4, 1) := by decide +kernel
theorem d_L_blockOf_60 : decode b_L_blockOf 60 = .ok (.iload_n 2, 1) := by decide +kernel
theorem d_L_blockOf_61 : decode b_L_blockOf 61 = .ok (.bipush 12, 2) := by decide +kernel
theorem d_L_blockOf_63 : decode b_L_blockOf 63 = .ok (.isub, 1) := by decide +kernel
theorem d_L_blockOf_64 : decode b_L_blockOf 64 = .ok (.imul, 1) := by decide +kernel
theorem d_L_blockOf_65 : decode b_L_blockOf 65 = .ok (.i2l, 1) := by decide +kernel
theorem d_L_blockOf_66 : decode b_L_blockOf 66 = .ok (.ladd, 1) := by decide +kernel
theorem d_L_blockOf_67 : decode b_L_blockOf 67 = .ok (.iconst 4, 1) := by decide +kernel
theorem d_L_blockOf_68 : decode b_L_blockOf 68 = .ok (.invokevirtual 21, 3) := by decide +kernel
theorem d_L_blockOf_71 : decode b_L_blockOf 71 = .ok (.lreturn, 1) := by decide +kernel
theorem d_L_blockOf_72 : decode b_L_blockOf 72 = .ok (.iload_n 2, 1) := by decide +kernel
theorem d_L_blockOf_73 : decode b_L_blockOf 73 = .ok (.sipush 268, 3) := by decide +kernel
theorem d_L_blockOf_76 : decode b_L_blockOf 76 = .ok (.isub, 1) := by decide +kernel
theorem d_L_blockOf_77 : decode b_L_blockOf 77 = .ok (.istore 5, 2) := by decide +kernel
theorem d_L_blockOf_79 : decode b_L_blockOf 79 = .ok (.ldc2_w 66, 3) := by decide +kernel
theorem d_L_blockOf_82 : decode b_L_blockOf 82 = .ok (.aload_n 0, 1) := by decide +kernel
theorem d_L_blockOf_83 : decode b_L_blockOf 83 = .ok (.getfield 15, 3) := by decide +kernel
theorem d_L_blockOf_86 : decode b_L_blockOf 86 = .ok (.lload_n 3, 1) := by decide +kernel
theorem d_L_blockOf_87 : decode b_L_blockOf 87 = .ok (.ldc2_w 87, 3) := by decide +kernel
theorem d_L_blockOf_90 : decode b_L_blockOf 90 = .ok (.ladd, 1) := by decide +kernel
theorem d_L_blockOf_91 : decode b_L_blockOf 91 = .ok (.iconst 4, 1) := by decide +kernel
theorem d_L_blockOf_92 : decode b_L_blockOf 92 = .ok (.invokevirtual 21, 3) := by decide +kernel
theorem d_L_blockOf_95 : decode b_L_blockOf 95 = .ok (.lmul, 1) := by decide +kernel
theorem d_L_blockOf_96 : decode b_L_blockOf 96 = .ok (.lstore 6, 2) := by decide +kernel
theorem d_L_blockOf_98 : decode b_L_blockOf 98 = .ok (.ldc2_w 66, 3) := by decide +kernel
theorem d_L_blockOf_101 : decode b_L_blockOf 101 = .ok (.aload_n 0, 1) := by decide +kernel
theorem d_L_blockOf_102 : decode b_L_blockOf 102 = .ok (.getfield 15, 3) := by decide +kernel
theorem d_L_blockOf_105 : decode b_L_blockOf 105 = .ok (.lload 6, 2) := by decide +kernel
theorem d_L_blockOf_107 : decode b_L_blockOf 107 = .ok (.iconst 4, 1) := by decide +kernel
theorem d_L_blockOf_108 : decode b_L_blockOf 108 = .ok (.iload 5, 2) := by decide +kernel
theorem d_L_blockOf_110 : decode b_L_blockOf 110 = .ok (.sipush 256, 3) := by decide +kernel
theorem d_L_blockOf_113 : decode b_L_blockOf 113 = .ok (.idiv, 1) := by decide +kernel
theorem d_L_blockOf_114 : decode b_L_blockOf 114 = .ok (.imul, 1) := by decide +kernel
theorem d_L_blockOf_115 : decode b_L_blockOf 115 = .ok (.i2l, 1) := by decide +kernel
theorem d_L_blockOf_116 : decode b_L_blockOf 116 = .ok (.ladd, 1) := by decide +kernel
theorem d_L_blockOf_117 : decode b_L_blockOf 117 = .ok (.iconst 4, 1) := by decide +kernel
theorem d_L_blockOf_118 : decode b_L_blockOf 118 = .ok (.invokevirtual 21, 3) := by decide +kernel
theorem d_L_blockOf_121 : decode b_L_blockOf 121 = .ok (.lmul, 1) := by decide +kernel
theorem d_L_blockOf_122 : decode b_L_blockOf 122 = .ok (.lstore 8, 2) := by decide +kernel
theorem d_L_blockOf_124 : decode b_L_blockOf 124 = .ok (.aload_n 0, 1) := by decide +kernel
theorem d_L_blockOf_125 : decode b_L_blockOf 125 = .ok (.getfield 15, 3) := by decide +kernel
theorem d_L_blockOf_128 : decode b_L_blockOf 128 = .ok (.lload 8, 2) := by decide +kernel
theorem d_L_blockOf_130 : decode b_L_blockOf 130 = .ok (.iconst 4, 1) := by decide +kernel
theorem d_L_blockOf_131 : decode b_L_blockOf 131 = .ok (.iload 5, 2) := by decide +kernel
theorem d_L_blockOf_133 : decode b_L_blockOf 133 = .ok (.sipush 256, 3) := by decide +kernel
theorem d_L_blockOf_136 : decode b_L_blockOf 136 = .ok (.irem, 1) := by decide +kernel
theorem d_L_blockOf_137 : decode b_L_blockOf 137 = .ok (.imul, 1) := by decide +kernel
theorem d_L_blockOf_138 : decode b_L_blockOf 138 = .ok (.i2l, 1) := by decide +kernel
theorem d_L_blockOf_139 : decode b_L_blockOf 139 = .ok (.ladd, 1) := by decide +kernel
theorem d_L_blockOf_140 : decode b_L_blockOf 140 = .ok (.iconst 4, 1) := by decide +kernel
theorem d_L_blockOf_141 : decode b_L_blockOf 141 = .ok (.invokevirtual 21, 3) := by decide +kernel
theorem d_L_blockOf_144 : decode b_L_blockOf 144 = .ok (.lreturn, 1) := by decide +kernel
theorem d_L_isInode_0 : decode b_L_isInode 0 = .ok (.lload_n 1, 1) := by decide +kernel
theorem d_L_isInode_1 : decode b_L_isInode 1 = .ok (.lconst 1, 1) := by decide +kernel
theorem d_L_isInode_2 : decode b_L_isInode 2 = .ok (.lcmp, 1) := by decide +kernel
theorem d_L_isInode_3 : decode b_L_isInode 3 = .ok (.ifCond .lt 17, 3) := by decide +kernel
theorem d_L_isInode_6 : decode b_L_isInode 6 = .ok (.lload_n 1, 1) := by decide +kernel
theorem d_L_isInode_7 : decode b_L_isInode 7 = .ok (.aload_n 0, 1) := by decide +kernel
theorem d_L_isInode_8 : decode b_L_isInode 8 = .ok (.getfield 53, 3) := by decide +kernel
theorem d_L_isInode_11 : decode b_L_isInode 11 = .ok (.i2l, 1) := by decide +kernel
theorem d_L_isInode_12 : decode b_L_isInode 12 = .ok (.lcmp, 1) := by decide +kernel
theorem d_L_isInode_13 : decode b_L_isInode 13 = .ok (.ifCond .gt 7, 3) := by decide +kernel
theorem d_L_isInode_16 : decode b_L_isInode 16 = .ok (.iconst 1, 1) := by decide +kernel
theorem d_L_isInode_17 : decode b_L_isInode 17 = .ok (.goto 4, 3) := by decide +kernel
theorem d_L_isInode_20 : decode b_L_isInode 20 = .ok (.iconst 0, 1) := by decide +kernel
theorem d_L_isInode_21 : decode b_L_isInode 21 = .ok (.ireturn, 1) := by decide +kernel
theorem d_L_blockMap_0 : decode b_L_blockMap 0 = .ok (.iload_n 1, 1) := by decide +kernel
theorem d_L_blockMap_1 : decode b_L_blockMap 1 = .ok (.ifCond .lt 23, 3) := by decide +kernel
theorem d_L_blockMap_4 : decode b_L_blockMap 4 = .ok (.iload_n 1, 1) := by decide +kernel
theorem d_L_blockMap_5 : decode b_L_blockMap 5 = .ok (.bipush 8, 2) := by decide +kernel
theorem d_L_blockMap_7 : decode b_L_blockMap 7 = .ok (.if_icmp .ge 17, 3) := by decide +kernel
theorem d_L_blockMap_10 : decode b_L_blockMap 10 = .ok (.ldc2_w 66, 3) := by decide +kernel
theorem d_L_blockMap_13 : decode b_L_blockMap 13 = .ok (.aload_n 0, 1) := by decide +kernel
theorem d_L_blockMap_14 : decode b_L_blockMap 14 = .ok (.getfield 9, 3) := by decide +kernel
theorem d_L_blockMap_17 : decode b_L_blockMap 17 = .ok (.iload_n 1, 1) := by decide +kernel
theorem d_L_blockMap_18 : decode b_L_blockMap 18 = .ok (.iaload, 1) := by decide +kernel
theorem d_L_blockMap_19 : decode b_L_blockMap 19 = .ok (.i2l, 1) := by decide +kernel
theorem d_L_blockMap_20 : decode b_L_blockMap 20 = .ok (.lmul, 1) := by decide +kernel
theorem d_L_blockMap_21 : decode b_L_blockMap 21 = .ok (.goto 6, 3) := by decide +kernel
theorem d_L_blockMap_24 : decode b_L_blockMap 24 = .ok (.ldc2_w 68, 3) := by decide +kernel
theorem d_L_blockMap_27 : decode b_L_blockMap 27 = .ok (.lreturn, 1) := by decide +kernel
theorem d_L_inodeMap_0 : decode b_L_inodeMap 0 = .ok (.aload_n 0, 1) := by decide +kernel
theorem d_L_inodeMap_1 : decode b_L_inodeMap 1 = .ok (.iload_n 1, 1) := by decide +kernel
theorem d_L_inodeMap_2 : decode b_L_inodeMap 2 = .ok (.invokevirtual 70, 3) := by decide +kernel
theorem d_L_inodeMap_5 : decode b_L_inodeMap 5 = .ok (.ldc2_w 66, 3) := by decide +kernel
theorem d_L_inodeMap_8 : decode b_L_inodeMap 8 = .ok (.ladd, 1) := by decide +kernel
theorem d_L_inodeMap_9 : decode b_L_inodeMap 9 = .ok (.lreturn, 1) := by decide +kernel
