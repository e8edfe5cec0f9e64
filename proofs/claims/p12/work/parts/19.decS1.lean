theorem d_S_forget_0 : decode b_S_forget 0 = .ok (.aload_n 0, 1) := by decide +kernel
theorem d_S_forget_1 : decode b_S_forget 1 = .ok (.iconst (-1), 1) := by decide +kernel
theorem d_S_forget_2 : decode b_S_forget 2 = .ok (.putfield 39, 3) := by decide +kernel
theorem d_S_forget_5 : decode b_S_forget 5 = .ok (.return_, 1) := by decide +kernel
theorem d_S_superblockHas_0 : decode b_S_superblockHas 0 = .ok (.aload_n 0, 1) := by decide +kernel
theorem d_S_superblockHas_1 : decode b_S_superblockHas 1 = .ok (.getfield 9, 3) := by decide +kernel
theorem d_S_superblockHas_4 : decode b_S_superblockHas 4 = .ok (.sipush 1024, 3) := by decide +kernel
theorem d_S_superblockHas_7 : decode b_S_superblockHas 7 = .ok (.iload_n 1, 1) := by decide +kernel
theorem d_S_superblockHas_8 : decode b_S_superblockHas 8 = .ok (.iadd, 1) := by decide +kernel
theorem d_S_superblockHas_9 : decode b_S_superblockHas 9 = .ok (.i2l, 1) := by decide +kernel
theorem d_S_superblockHas_10 : decode b_S_superblockHas 10 = .ok (.iload_n 2, 1) := by decide +kernel
theorem d_S_superblockHas_11 : decode b_S_superblockHas 11 = .ok (.invokevirtual 88, 3) := by decide +kernel
theorem d_S_superblockHas_14 : decode b_S_superblockHas 14 = .ok (.lload_n 3, 1) := by decide +kernel
theorem d_S_superblockHas_15 : decode b_S_superblockHas 15 = .ok (.lcmp, 1) := by decide +kernel
theorem d_S_superblockHas_16 : decode b_S_superblockHas 16 = .ok (.ifCond .ne 7, 3) := by decide +kernel
theorem d_S_superblockHas_19 : decode b_S_superblockHas 19 = .ok (.iconst 1, 1) := by decide +kernel
theorem d_S_superblockHas_20 : decode b_S_superblockHas 20 = .ok (.goto 4, 3) := by decide +kernel
theorem d_S_superblockHas_23 : decode b_S_superblockHas 23 = .ok (.iconst 0, 1) := by decide +kernel
theorem d_S_superblockHas_24 : decode b_S_superblockHas 24 = .ok (.ireturn, 1) := by decide +kernel
theorem d_S_superblockStands_0 : decode b_S_superblockStands 0 = .ok (.aload_n 0, 1) := by decide +kernel
theorem d_S_superblockStands_1 : decode b_S_superblockStands 1 = .ok (.getfield 15, 3) := by decide +kernel
theorem d_S_superblockStands_4 : decode b_S_superblockStands 4 = .ok (.invokevirtual 60, 3) := by decide +kernel
theorem d_S_superblockStands_7 : decode b_S_superblockStands 7 = .ok (.ifCond .eq 166, 3) := by decide +kernel
theorem d_S_superblockStands_10 : decode b_S_superblockStands 10 = .ok (.aload_n 0, 1) := by decide +kernel
theorem d_S_superblockStands_11 : decode b_S_superblockStands 11 = .ok (.iconst 0, 1) := by decide +kernel
theorem d_S_superblockStands_12 : decode b_S_superblockStands 12 = .ok (.iconst 4, 1) := by decide +kernel
theorem d_S_superblockStands_13 : decode b_S_superblockStands 13 = .ok (.aload_n 0, 1) := by decide +kernel
theorem d_S_superblockStands_14 : decode b_S_superblockStands 14 = .ok (.getfield 15, 3) := by decide +kernel
theorem d_S_superblockStands_17 : decode b_S_superblockStands 17 = .ok (.invokevirtual 65, 3) := by decide +kernel
theorem d_S_superblockStands_20 : decode b_S_superblockStands 20 = .ok (.i2l, 1) := by decide +kernel
theorem d_S_superblockStands_21 : decode b_S_superblockStands 21 = .ok (.invokevirtual 68, 3) := by decide +kernel
theorem d_S_superblockStands_24 : decode b_S_superblockStands 24 = .ok (.ifCond .eq 149, 3) := by decide +kernel
theorem d_S_superblockStands_27 : decode b_S_superblockStands 27 = .ok (.aload_n 0, 1) := by decide +kernel
theorem d_S_superblockStands_28 : decode b_S_superblockStands 28 = .ok (.iconst 4, 1) := by decide +kernel
theorem d_S_superblockStands_29 : decode b_S_superblockStands 29 = .ok (.iconst 4, 1) := by decide +kernel
theorem d_S_superblockStands_30 : decode b_S_superblockStands 30 = .ok (.aload_n 0, 1) := by decide +kernel
theorem d_S_superblockStands_31 : decode b_S_superblockStands 31 = .ok (.getfield 9, 3) := by decide +kernel
theorem d_S_superblockStands_34 : decode b_S_superblockStands 34 = .ok (.invokevirtual 72, 3) := by decide +kernel
theorem d_S_superblockStands_37 : decode b_S_superblockStands 37 = .ok (.i2l, 1) := by decide +kernel
theorem d_S_superblockStands_38 : decode b_S_superblockStands 38 = .ok (.invokevirtual 68, 3) := by decide +kernel
theorem d_S_superblockStands_41 : decode b_S_superblockStands 41 = .ok (.ifCond .eq 132, 3) := by decide +kernel
theorem d_S_superblockStands_44 : decode b_S_superblockStands 44 = .ok (.aload_n 0, 1) := by decide +kernel
theorem d_S_superblockStands_45 : decode b_S_superblockStands 45 = .ok (.bipush 20, 2) := by decide +kernel
theorem d_S_superblockStands_47 : decode b_S_superblockStands 47 = .ok (.iconst 4, 1) := by decide +kernel
theorem d_S_superblockStands_48 : decode b_S_superblockStands 48 = .ok (.lconst 1, 1) := by decide +kernel
theorem d_S_superblockStands_49 : decode b_S_superblockStands 49 = .ok (.invokevirtual 68, 3) := by decide +kernel
theorem d_S_superblockStands_52 : decode b_S_superblockStands 52 = .ok (.ifCond .eq 121, 3) := by decide +kernel
theorem d_S_superblockStands_55 : decode b_S_superblockStands 55 = .ok (.aload_n 0, 1) := by decide +kernel
theorem d_S_superblockStands_56 : decode b_S_superblockStands 56 = .ok (.bipush 24, 2) := by decide +kernel
theorem d_S_superblockStands_58 : decode b_S_superblockStands 58 = .ok (.iconst 4, 1) := by decide +kernel
theorem d_S_superblockStands_59 : decode b_S_superblockStands 59 = .ok (.lconst 0, 1) := by decide +kernel
theorem d_S_superblockStands_60 : decode b_S_superblockStands 60 = .ok (.invokevirtual 68, 3) := by decide +kernel
theorem d_S_superblockStands_63 : decode b_S_superblockStands 63 = .ok (.ifCond .eq 110, 3) := by decide +kernel
theorem d_S_superblockStands_66 : decode b_S_superblockStands 66 = .ok (.aload_n 0, 1) := by decide +kernel
theorem d_S_superblockStands_67 : decode b_S_superblockStands 67 = .ok (.bipush 36, 2) := by decide +kernel
theorem d_S_superblockStands_69 : decode b_S_superblockStands 69 = .ok (.iconst 4, 1) := by decide +kernel
theorem d_S_superblockStands_70 : decode b_S_superblockStands 70 = .ok (.aload_n 0, 1) := by decide +kernel
theorem d_S_superblockStands_71 : decode b_S_superblockStands 71 = .ok (.getfield 15, 3) := by decide +kernel
theorem d_S_superblockStands_74 : decode b_S_superblockStands 74 = .ok (.invokevirtual 77, 3) := by decide +kernel
theorem d_S_superblockStands_77 : decode b_S_superblockStands 77 = .ok (.i2l, 1) := by decide +kernel
theorem d_S_superblockStands_78 : decode b_S_superblockStands 78 = .ok (.invokevirtual 68, 3) := by decide +kernel
theorem d_S_superblockStands_81 : decode b_S_superblockStands 81 = .ok (.ifCond .eq 92, 3) := by decide +kernel
theorem d_S_superblockStands_84 : decode b_S_superblockStands 84 = .ok (.aload_n 0, 1) := by decide +kernel
theorem d_S_superblockStands_85 : decode b_S_superblockStands 85 = .ok (.bipush 56, 2) := by decide +kernel
theorem d_S_superblockStands_87 : decode b_S_superblockStands 87 = .ok (.iconst 2, 1) := by decide +kernel
theorem d_S_superblockStands_88 : decode b_S_superblockStands 88 = .ok (.ldc2_w 80, 3) := by decide +kernel
theorem d_S_superblockStands_91 : decode b_S_superblockStands 91 = .ok (.invokevirtual 68, 3) := by decide +kernel
theorem d_S_superblockStands_94 : decode b_S_superblockStands 94 = .ok (.ifCond .eq 79, 3) := by decide +kernel
theorem d_S_superblockStands_97 : decode b_S_superblockStands 97 = .ok (.aload_n 0, 1) := by decide +kernel
theorem d_S_superblockStands_98 : decode b_S_superblockStands 98 = .ok (.bipush 58, 2) := by decide +kernel
theorem d_S_superblockStands_100 : decode b_S_superblockStands 100 = .ok (.iconst 2, 1) := by decide +kernel
theorem d_S_superblockStands_101 : decode b_S_superblockStands 101 = .ok (.lconst 1, 1) := by decide +kernel
theorem d_S_superblockStands_102 : decode b_S_superblockStands 102 = .ok (.invokevirtual 68, 3) := by decide +kernel
theorem d_S_superblockStands_105 : decode b_S_superblockStands 105 = .ok (.ifCond .eq 68, 3) := by decide +kernel
theorem d_S_superblockStands_108 : decode b_S_superblockStands 108 = .ok (.aload_n 0, 1) := by decide +kernel
theorem d_S_superblockStands_109 : decode b_S_superblockStands 109 = .ok (.bipush 76, 2) := by decide +kernel
theorem d_S_superblockStands_111 : decode b_S_superblockStands 111 = .ok (.iconst 4, 1) := by decide +kernel
theorem d_S_superblockStands_112 : decode b_S_superblockStands 112 = .ok (.lconst 1, 1) := by decide +kernel
theorem d_S_superblockStands_113 : decode b_S_superblockStands 113 = .ok (.invokevirtual 68, 3) := by decide +kernel
theorem d_S_superblockStands_116 : decode b_S_superblockStands 116 = .ok (.ifCond .eq 57, 3) := by decide +kernel
theorem d_S_superblockStands_119 : decode b_S_superblockStands 119 = .ok (.aload_n 0, 1) := by decide +kernel
theorem d_S_superblockStands_120 : decode b_S_superblockStands 120 = .ok (.bipush 84, 2) := by decide +kernel
theorem d_S_superblockStands_122 : decode b_S_superblockStands 122 = .ok (.iconst 4, 1) := by decide +kernel
theorem d_S_superblockStands_123 : decode b_S_superblockStands 123 = .ok (.ldc2_w 82, 3) := by decide +kernel
theorem d_S_superblockStands_126 : decode b_S_superblockStands 126 = .ok (.invokevirtual 68, 3) := by decide +kernel
theorem d_S_superblockStands_129 : decode b_S_superblockStands 129 = .ok (.ifCond .eq 44, 3) := by decide +kernel
theorem d_S_superblockStands_132 : decode b_S_superblockStands 132 = .ok (.aload_n 0, 1) := by decide +kernel
theorem d_S_superblockStands_133 : decode b_S_superblockStands 133 = .ok (.bipush 88, 2) := by decide +kernel
theorem d_S_superblockStands_135 : decode b_S_superblockStands 135 = .ok (.iconst 2, 1) := by decide +kernel
theorem d_S_superblockStands_136 : decode b_S_superblockStands 136 = .ok (.ldc2_w 84, 3) := by decide +kernel
theorem d_S_superblockStands_139 : decode b_S_superblockStands 139 = .ok (.invokevirtual 68, 3) := by decide +kernel
theorem d_S_superblockStands_142 : decode b_S_superblockStands 142 = .ok (.ifCond .eq 31, 3) := by decide +kernel
theorem d_S_superblockStands_145 : decode b_S_superblockStands 145 = .ok (.aload_n 0, 1) := by decide +kernel
theorem d_S_superblockStands_146 : decode b_S_superblockStands 146 = .ok (.bipush 90, 2) := by decide +kernel
theorem d_S_superblockStands_148 : decode b_S_superblockStands 148 = .ok (.iconst 2, 1) := by decide +kernel
theorem d_S_superblockStands_149 : decode b_S_superblockStands 149 = .ok (.lconst 0, 1) := by decide +kernel
theorem d_S_superblockStands_150 : decode b_S_superblockStands 150 = .ok (.invokevirtual 68, 3) := by decide +kernel
theorem d_S_superblockStands_153 : decode b_S_superblockStands 153 = .ok (.ifCond .eq 20, 3) := by decide +kernel
theorem d_S_superblockStands_156 : decode b_S_superblockStands 156 = .ok (.aload_n 0, 1) := by decide +kernel
theorem d_S_superblockStands_157 : decode b_S_superblockStands 157 = .ok (.bipush 96, 2) := by decide +kernel
theorem d_S_superblockStands_159 : decode b_S_superblockStands 159 = .ok (.iconst 4, 1) := by decide +kernel
theorem d_S_superblockStands_160 : decode b_S_superblockStands 160 = .ok (.ldc2_w 86, 3) := by decide +kernel
theorem d_S_superblockStands_163 : decode b_S_superblockStands 163 = .ok (.invokevirtual 68, 3) := by decide +kernel
theorem d_S_superblockStands_166 : decode b_S_superblockStands 166 = .ok (.ifCond .eq 7, 3) := by decide +kernel
theorem d_S_superblockStands_169 : decode b_S_superblockStands 169 = .ok (.iconst 1, 1) := by decide +kernel
theorem d_S_superblockStands_170 : decode b_S_superblockStands 170 = .ok (.goto 4, 3) := by decide +kernel
theorem d_S_superblockStands_173 : decode b_S_superblockStands 173 = .ok (.iconst 0, 1) := by decide +kernel
theorem d_S_superblockStands_174 : decode b_S_superblockStands 174 = .ok (.ireturn, 1) := by decide +kernel
theorem d_S_hasCopies_0 : decode b_S_hasCopies 0 = .ok (.ldc2_w 103, 3) := by decide +kernel
theorem d_S_hasCopies_3 : decode b_S_hasCopies 3 = .ok (.aload_n 0, 1) := by decide +kernel
theorem d_S_hasCopies_4 : decode b_S_hasCopies 4 = .ok (.getfield 15, 3) := by decide +kernel
theorem d_S_hasCopies_7 : decode b_S_hasCopies 7 = .ok (.iload_n 1, 1) := by decide +kernel
theorem d_S_hasCopies_8 : decode b_S_hasCopies 8 = .ok (.invokevirtual 105, 3) := by decide +kernel
theorem d_S_hasCopies_11 : decode b_S_hasCopies 11 = .ok (.i2l, 1) := by decide +kernel
theorem d_S_hasCopies_12 : decode b_S_hasCopies 12 = .ok (.lmul, 1) := by decide +kernel
theorem d_S_hasCopies_13 : decode b_S_hasCopies 13 = .ok (.lstore_n 2, 1) := by decide +kernel
theorem d_S_hasCopies_14 : decode b_S_hasCopies 14 = .ok (.iconst 0, 1) := by decide +kernel
theorem d_S_hasCopies_15 : decode b_S_hasCopies 15 = .ok (.istore 4, 2) := by decide +kernel
theorem d_S_hasCopies_17 : decode b_S_hasCopies 17 = .ok (.iload 4, 2) := by decide +kernel
theorem d_S_hasCopies_19 : decode b_S_hasCopies 19 = .ok (.sipush 2048, 3) := by decide +kernel
theorem d_S_hasCopies_22 : decode b_S_hasCopies 22 = .ok (.if_icmp .ge 66, 3) := by decide +kernel
theorem d_S_hasCopies_25 : decode b_S_hasCopies 25 = .ok (.aload_n 0, 1) := by decide +kernel
theorem d_S_hasCopies_26 : decode b_S_hasCopies 26 = .ok (.getfield 9, 3) := by decide +kernel
theorem d_S_hasCopies_29 : decode b_S_hasCopies 29 = .ok (.sipush 1024, 3) := by decide +kernel
theorem d_S_hasCopies_32 : decode b_S_hasCopies 32 = .ok (.iload 4, 2) := by decide +kernel
theorem d_S_hasCopies_34 : decode b_S_hasCopies 34 = .ok (.iadd, 1) := by decide +kernel
theorem d_S_hasCopies_35 : decode b_S_hasCopies 35 = .ok (.i2l, 1) := by decide +kernel
theorem d_S_hasCopies_36 : decode b_S_hasCopies 36 = .ok (.bipush 8, 2) := by decide +kernel
theorem d_S_hasCopies_38 : decode b_S_hasCopies 38 = .ok (.invokevirtual 88, 3) := by decide +kernel
theorem d_S_hasCopies_41 : decode b_S_hasCopies 41 = .ok (.lstore 5, 2) := by decide +kernel
theorem d_S_hasCopies_43 : decode b_S_hasCopies 43 = .ok (.iload 4, 2) := by decide +kernel
theorem d_S_hasCopies_45 : decode b_S_hasCopies 45 = .ok (.bipush 88, 2) := by decide +kernel
theorem d_S_hasCopies_47 : decode b_S_hasCopies 47 = .ok (.if_icmp .ne 13, 3) := by decide +kernel
theorem d_S_hasCopies_50 : decode b_S_hasCopies 50 = .ok (.lload 5, 2) := by decide +kernel
theorem d_S_hasCopies_52 : decode b_S_hasCopies 52 = .ok (.iload_n 1, 1) := by decide +kernel
theorem d_S_hasCopies_53 : decode b_S_hasCopies 53 = .ok (.i2l, 1) := by decide +kernel
theorem d_S_hasCopies_54 : decode b_S_hasCopies 54 = .ok (.bipush 16, 2) := by decide +kernel
theorem d_S_hasCopies_56 : decode b_S_hasCopies 56 = .ok (.lshl, 1) := by decide +kernel
theorem d_S_hasCopies_57 : decode b_S_hasCopies 57 = .ok (.lor, 1) := by decide +kernel
theorem d_S_hasCopies_58 : decode b_S_hasCopies 58 = .ok (.lstore 5, 2) := by decide +kernel
theorem d_S_hasCopies_60 : decode b_S_hasCopies 60 = .ok (.aload_n 0, 1) := by decide +kernel
theorem d_S_hasCopies_61 : decode b_S_hasCopies 61 = .ok (.getfield 9, 3) := by decide +kernel
theorem d_S_hasCopies_64 : decode b_S_hasCopies 64 = .ok (.lload_n 2, 1) := by decide +kernel
theorem d_S_hasCopies_65 : decode b_S_hasCopies 65 = .ok (.iload 4, 2) := by decide +kernel
theorem d_S_hasCopies_67 : decode b_S_hasCopies 67 = .ok (.i2l, 1) := by decide +kernel
theorem d_S_hasCopies_68 : decode b_S_hasCopies 68 = .ok (.ladd, 1) := by decide +kernel
theorem d_S_hasCopies_69 : decode b_S_hasCopies 69 = .ok (.bipush 8, 2) := by decide +kernel
theorem d_S_hasCopies_71 : decode b_S_hasCopies 71 = .ok (.invokevirtual 88, 3) := by decide +kernel
theorem d_S_hasCopies_74 : decode b_S_hasCopies 74 = .ok (.lload 5, 2) := by decide +kernel
theorem d_S_hasCopies_76 : decode b_S_hasCopies 76 = .ok (.lcmp, 1) := by decide +kernel
theorem d_S_hasCopies_77 : decode b_S_hasCopies 77 = .ok (.ifCond .eq 5, 3) := by decide +kernel
theorem d_S_hasCopies_80 : decode b_S_hasCopies 80 = .ok (.iconst 0, 1) := by decide +kernel
theorem d_S_hasCopies_81 : decode b_S_hasCopies 81 = .ok (.ireturn, 1) := by decide +kernel
theorem d_S_hasCopies_82 : decode b_S_hasCopies 82 = .ok (.iinc 4 8, 3) := by decide +kernel
theorem d_S_hasCopies_85 : decode b_S_hasCopies 85 = .ok (.goto (-68), 3) := by decide +kernel
theorem d_S_hasCopies_88 : decode b_S_hasCopies 88 = .ok (.iconst 1, 1) := by decide +kernel
theorem d_S_hasCopies_89 : decode b_S_hasCopies 89 = .ok (.ireturn, 1) := by decide +kernel
theorem d_S_copiesStand_0 : decode b_S_copiesStand 0 = .ok (.iconst 1, 1) := by decide +kernel
theorem d_S_copiesStand_1 : decode b_S_copiesStand 1 = .ok (.istore_n 1, 1) := by decide +kernel
theorem d_S_copiesStand_2 : decode b_S_copiesStand 2 = .ok (.iload_n 1, 1) := by decide +kernel
theorem d_S_copiesStand_3 : decode b_S_copiesStand 3 = .ok (.aload_n 0, 1) := by decide +kernel
theorem d_S_copiesStand_4 : decode b_S_copiesStand 4 = .ok (.getfield 15, 3) := by decide +kernel
theorem d_S_copiesStand_7 : decode b_S_copiesStand 7 = .ok (.invokevirtual 92, 3) := by decide +kernel
theorem d_S_copiesStand_10 : decode b_S_copiesStand 10 = .ok (.if_icmp .ge 31, 3) := by decide +kernel
theorem d_S_copiesStand_13 : decode b_S_copiesStand 13 = .ok (.aload_n 0, 1) := by decide +kernel
theorem d_S_copiesStand_14 : decode b_S_copiesStand 14 = .ok (.getfield 15, 3) := by decide +kernel
theorem d_S_copiesStand_17 : decode b_S_copiesStand 17 = .ok (.iload_n 1, 1) := by decide +kernel
theorem d_S_copiesStand_18 : decode b_S_copiesStand 18 = .ok (.invokevirtual 95, 3) := by decide +kernel
theorem d_S_copiesStand_21 : decode b_S_copiesStand 21 = .ok (.iconst 2, 1) := by decide +kernel
theorem d_S_copiesStand_22 : decode b_S_copiesStand 22 = .ok (.if_icmp .lt 11, 3) := by decide +kernel
theorem d_S_copiesStand_25 : decode b_S_copiesStand 25 = .ok (.aload_n 0, 1) := by decide +kernel
theorem d_S_copiesStand_26 : decode b_S_copiesStand 26 = .ok (.iload_n 1, 1) := by decide +kernel
theorem d_S_copiesStand_27 : decode b_S_copiesStand 27 = .ok (.invokevirtual 99, 3) := by decide +kernel
theorem d_S_copiesStand_30 : decode b_S_copiesStand 30 = .ok (.ifCond .ne 5, 3) := by decide +kernel
theorem d_S_copiesStand_33 : decode b_S_copiesStand 33 = .ok (.iconst 0, 1) := by decide +kernel
theorem d_S_copiesStand_34 : decode b_S_copiesStand 34 = .ok (.ireturn, 1) := by decide +kernel
theorem d_S_copiesStand_35 : decode b_S_copiesStand 35 = .ok (.iinc 1 1, 3) := by decide +kernel
theorem d_S_copiesStand_38 : decode b_S_copiesStand 38 = .ok (.goto (-36), 3) := by decide +kernel
theorem d_S_copiesStand_41 : decode b_S_copiesStand 41 = .ok (.iconst 1, 1) := by decide +kernel
theorem d_S_copiesStand_42 : decode b_S_copiesStand 42 = .ok (.ireturn, 1) := by decide +kernel
theorem d_S_fix_0 : decode b_S_fix 0 = .ok (.iload_n 1, 1) := by decide +kernel
theorem d_S_fix_1 : decode b_S_fix 1 = .ok (.iconst 0, 1) := by decide +kernel
theorem d_S_fix_2 : decode b_S_fix 2 = .ok (.invokestatic 128, 3) := by decide +kernel
theorem d_S_fix_5 : decode b_S_fix 5 = .ok (.istore_n 3, 1) := by decide +kernel
theorem d_S_fix_6 : decode b_S_fix 6 = .ok (.iload_n 3, 1) := by decide +kernel
theorem d_S_fix_7 : decode b_S_fix 7 = .ok (.iload_n 1, 1) := by decide +kernel
theorem d_S_fix_8 : decode b_S_fix 8 = .ok (.iload_n 2, 1) := by decide +kernel
theorem d_S_fix_9 : decode b_S_fix 9 = .ok (.iadd, 1) := by decide +kernel
theorem d_S_fix_10 : decode b_S_fix 10 = .ok (.if_icmp .ge 25, 3) := by decide +kernel
theorem d_S_fix_13 : decode b_S_fix 13 = .ok (.iload_n 3, 1) := by decide +kernel
theorem d_S_fix_14 : decode b_S_fix 14 = .ok (.aload_n 0, 1) := by decide +kernel
theorem d_S_fix_15 : decode b_S_fix 15 = .ok (.getfield 23, 3) := by decide +kernel
theorem d_S_fix_18 : decode b_S_fix 18 = .ok (.arraylength, 1) := by decide +kernel
theorem d_S_fix_19 : decode b_S_fix 19 = .ok (.if_icmp .ge 16, 3) := by decide +kernel
theorem d_S_fix_22 : decode b_S_fix 22 = .ok (.aload_n 0, 1) := by decide +kernel
theorem d_S_fix_23 : decode b_S_fix 23 = .ok (.getfield 23, 3) := by decide +kernel
theorem d_S_fix_26 : decode b_S_fix 26 = .ok (.iload_n 3, 1) := by decide +kernel
theorem d_S_fix_27 : decode b_S_fix 27 = .ok (.iconst 1, 1) := by decide +kernel
theorem d_S_fix_28 : decode b_S_fix 28 = .ok (.iastore, 1) := by decide +kernel
theorem d_S_fix_29 : decode b_S_fix 29 = .ok (.iinc 3 1, 3) := by decide +kernel
theorem d_S_fix_32 : decode b_S_fix 32 = .ok (.goto (-26), 3) := by decide +kernel
theorem d_S_fix_35 : decode b_S_fix 35 = .ok (.return_, 1) := by decide +kernel
theorem d_S_groupsStand_0 : decode b_S_groupsStand 0 = .ok (.aload_n 0, 1) := by decide +kernel
theorem d_S_groupsStand_1 : decode b_S_groupsStand 1 = .ok (.getfield 23, 3) := by decide +kernel
theorem d_S_groupsStand_4 : decode b_S_groupsStand 4 = .ok (.iconst 0, 1) := by decide +kernel
theorem d_S_groupsStand_5 : decode b_S_groupsStand 5 = .ok (.invokestatic 108, 3) := by decide +kernel
theorem d_S_groupsStand_8 : decode b_S_groupsStand 8 = .ok (.iconst 0, 1) := by decide +kernel
theorem d_S_groupsStand_9 : decode b_S_groupsStand 9 = .ok (.istore_n 1, 1) := by decide +kernel
theorem d_S_groupsStand_10 : decode b_S_groupsStand 10 = .ok (.iload_n 1, 1) := by decide +kernel
theorem d_S_groupsStand_11 : decode b_S_groupsStand 11 = .ok (.aload_n 0, 1) := by decide +kernel
theorem d_S_groupsStand_12 : decode b_S_groupsStand 12 = .ok (.getfield 15, 3) := by decide +kernel
theorem d_S_groupsStand_15 : decode b_S_groupsStand 15 = .ok (.invokevirtual 92, 3) := by decide +kernel
theorem d_S_groupsStand_18 : decode b_S_groupsStand 18 = .ok (.if_icmp .ge 150, 3) := by decide +kernel
theorem d_S_groupsStand_21 : decode b_S_groupsStand 21 = .ok (.aload_n 0, 1) := by decide +kernel
theorem d_S_groupsStand_22 : decode b_S_groupsStand 22 = .ok (.getfield 15, 3) := by decide +kernel
theorem d_S_groupsStand_25 : decode b_S_groupsStand 25 = .ok (.iload_n 1, 1) := by decide +kernel
theorem d_S_groupsStand_26 : decode b_S_groupsStand 26 = .ok (.invokevirtual 105, 3) := by decide +kernel
theorem d_S_groupsStand_29 : decode b_S_groupsStand 29 = .ok (.istore_n 2, 1) := by decide +kernel
theorem d_S_groupsStand_30 : decode b_S_groupsStand 30 = .ok (.iload_n 2, 1) := by decide +kernel
theorem d_S_groupsStand_31 : decode b_S_groupsStand 31 = .ok (.aload_n 0, 1) := by decide +kernel
theorem d_S_groupsStand_32 : decode b_S_groupsStand 32 = .ok (.getfield 15, 3) := by decide +kernel
theorem d_S_groupsStand_35 : decode b_S_groupsStand 35 = .ok (.iload_n 1, 1) := by decide +kernel
theorem d_S_groupsStand_36 : decode b_S_groupsStand 36 = .ok (.invokevirtual 95, 3) := by decide +kernel
theorem d_S_groupsStand_39 : decode b_S_groupsStand 39 = .ok (.iadd, 1) := by decide +kernel
theorem d_S_groupsStand_40 : decode b_S_groupsStand 40 = .ok (.istore_n 3, 1) := by decide +kernel
theorem d_S_groupsStand_41 : decode b_S_groupsStand 41 = .ok (.aload_n 0, 1) := by decide +kernel
theorem d_S_groupsStand_42 : decode b_S_groupsStand 42 = .ok (.getfield 15, 3) := by decide +kernel
theorem d_S_groupsStand_45 : decode b_S_groupsStand 45 = .ok (.invokevirtual 114, 3) := by decide +kernel
theorem d_S_groupsStand_48 : decode b_S_groupsStand 48 = .ok (.bipush 8, 2) := by decide +kernel
theorem d_S_groupsStand_50 : decode b_S_groupsStand 50 = .ok (.idiv, 1) := by decide +kernel
theorem d_S_groupsStand_51 : decode b_S_groupsStand 51 = .ok (.istore 4, 2) := by decide +kernel
theorem d_S_groupsStand_53 : decode b_S_groupsStand 53 = .ok (.aload_n 0, 1) := by decide +kernel
theorem d_S_groupsStand_54 : decode b_S_groupsStand 54 = .ok (.getfield 15, 3) := by decide +kernel
theorem d_S_groupsStand_57 : decode b_S_groupsStand 57 = .ok (.iload_n 1, 1) := by decide +kernel
theorem d_S_groupsStand_58 : decode b_S_groupsStand 58 = .ok (.iconst 0, 1) := by decide +kernel
theorem d_S_groupsStand_59 : decode b_S_groupsStand 59 = .ok (.iconst 4, 1) := by decide +kernel
theorem d_S_groupsStand_60 : decode b_S_groupsStand 60 = .ok (.invokevirtual 117, 3) := by decide +kernel
theorem d_S_groupsStand_63 : decode b_S_groupsStand 63 = .ok (.lstore 5, 2) := by decide +kernel
theorem d_S_groupsStand_65 : decode b_S_groupsStand 65 = .ok (.lload 5, 2) := by decide +kernel
theorem d_S_groupsStand_67 : decode b_S_groupsStand 67 = .ok (.iload_n 2, 1) := by decide +kernel
theorem d_S_groupsStand_68 : decode b_S_groupsStand 68 = .ok (.iconst 2, 1) := by decide +kernel
theorem d_S_groupsStand_69 : decode b_S_groupsStand 69 = .ok (.iadd, 1) := by decide +kernel
theorem d_S_groupsStand_70 : decode b_S_groupsStand 70 = .ok (.i2l, 1) := by decide +kernel
theorem d_S_groupsStand_71 : decode b_S_groupsStand 71 = .ok (.lcmp, 1) := by decide +kernel
theorem d_S_groupsStand_72 : decode b_S_groupsStand 72 = .ok (.ifCond .lt 19, 3) := by decide +kernel
theorem d_S_groupsStand_75 : decode b_S_groupsStand 75 = .ok (.lload 5, 2) := by decide +kernel
theorem d_S_groupsStand_77 : decode b_S_groupsStand 77 = .ok (.ldc2_w 86, 3) := by decide +kernel
theorem d_S_groupsStand_80 : decode b_S_groupsStand 80 = .ok (.ladd, 1) := by decide +kernel
theorem d_S_groupsStand_81 : decode b_S_groupsStand 81 = .ok (.iload 4, 2) := by decide +kernel
theorem d_S_groupsStand_83 : decode b_S_groupsStand 83 = .ok (.i2l, 1) := by decide +kernel
theorem d_S_groupsStand_84 : decode b_S_groupsStand 84 = .ok (.ladd, 1) := by decide +kernel
theorem d_S_groupsStand_85 : decode b_S_groupsStand 85 = .ok (.iload_n 3, 1) := by decide +kernel
theorem d_S_groupsStand_86 : decode b_S_groupsStand 86 = .ok (.i2l, 1) := by decide +kernel
theorem d_S_groupsStand_87 : decode b_S_groupsStand 87 = .ok (.lcmp, 1) := by decide +kernel
theorem d_S_groupsStand_88 : decode b_S_groupsStand 88 = .ok (.ifCond .le 5, 3) := by decide +kernel
theorem d_S_groupsStand_91 : decode b_S_groupsStand 91 = .ok (.iconst 0, 1) := by decide +kernel
theorem d_S_groupsStand_92 : decode b_S_groupsStand 92 = .ok (.ireturn, 1) := by decide +kernel
theorem d_S_groupsStand_93 : decode b_S_groupsStand 93 = .ok (.aload_n 0, 1) := by decide +kernel
theorem d_S_groupsStand_94 : decode b_S_groupsStand 94 = .ok (.getfield 15, 3) := by decide +kernel
theorem d_S_groupsStand_97 : decode b_S_groupsStand 97 = .ok (.iload_n 1, 1) := by decide +kernel
theorem d_S_groupsStand_98 : decode b_S_groupsStand 98 = .ok (.iconst 4, 1) := by decide +kernel
theorem d_S_groupsStand_99 : decode b_S_groupsStand 99 = .ok (.iconst 4, 1) := by decide +kernel
theorem d_S_groupsStand_100 : decode b_S_groupsStand 100 = .ok (.invokevirtual 117, 3) := by decide +kernel
theorem d_S_groupsStand_103 : decode b_S_groupsStand 103 = .ok (.lload 5, 2) := by decide +kernel
theorem d_S_groupsStand_105 : decode b_S_groupsStand 105 = .ok (.lconst 1, 1) := by decide +kernel
theorem d_S_groupsStand_106 : decode b_S_groupsStand 106 = .ok (.ladd, 1) := by decide +kernel
theorem d_S_groupsStand_107 : decode b_S_groupsStand 107 = .ok (.lcmp, 1) := by decide +kernel
theorem d_S_groupsStand_108 : decode b_S_groupsStand 108 = .ok (.ifCond .ne 24, 3) := by decide +kernel
theorem d_S_groupsStand_111 : decode b_S_groupsStand 111 = .ok (.aload_n 0, 1) := by decide +kernel
theorem d_S_groupsStand_112 : decode b_S_groupsStand 112 = .ok (.getfield 15, 3) := by decide +kernel
theorem d_S_groupsStand_115 : decode b_S_groupsStand 115 = .ok (.iload_n 1, 1) := by decide +kernel
theorem d_S_groupsStand_116 : decode b_S_groupsStand 116 = .ok (.bipush 8, 2) := by decide +kernel
theorem d_S_groupsStand_118 : decode b_S_groupsStand 118 = .ok (.iconst 4, 1) := by decide +kernel
theorem d_S_groupsStand_119 : decode b_S_groupsStand 119 = .ok (.invokevirtual 117, 3) := by decide +kernel
theorem d_S_groupsStand_122 : decode b_S_groupsStand 122 = .ok (.lload 5, 2) := by decide +kernel
theorem d_S_groupsStand_124 : decode b_S_groupsStand 124 = .ok (.ldc2_w 86, 3) := by decide +kernel
theorem d_S_groupsStand_127 : decode b_S_groupsStand 127 = .ok (.ladd, 1) := by decide +kernel
theorem d_S_groupsStand_128 : decode b_S_groupsStand 128 = .ok (.lcmp, 1) := by decide +kernel
theorem d_S_groupsStand_129 : decode b_S_groupsStand 129 = .ok (.ifCond .eq 5, 3) := by decide +kernel
theorem d_S_groupsStand_132 : decode b_S_groupsStand 132 = .ok (.iconst 0, 1) := by decide +kernel
theorem d_S_groupsStand_133 : decode b_S_groupsStand 133 = .ok (.ireturn, 1) := by decide +kernel
theorem d_S_groupsStand_134 : decode b_S_groupsStand 134 = .ok (.aload_n 0, 1) := by decide +kernel
theorem d_S_groupsStand_135 : decode b_S_groupsStand 135 = .ok (.getfield 15, 3) := by decide +kernel
theorem d_S_groupsStand_138 : decode b_S_groupsStand 138 = .ok (.iload_n 1, 1) := by decide +kernel
theorem d_S_groupsStand_139 : decode b_S_groupsStand 139 = .ok (.lload 5, 2) := by decide +kernel
theorem d_S_groupsStand_141 : decode b_S_groupsStand 141 = .ok (.l2i, 1) := by decide +kernel
theorem d_S_groupsStand_142 : decode b_S_groupsStand 142 = .ok (.invokevirtual 121, 3) := by decide +kernel
theorem d_S_groupsStand_145 : decode b_S_groupsStand 145 = .ok (.aload_n 0, 1) := by decide +kernel
theorem d_S_groupsStand_146 : decode b_S_groupsStand 146 = .ok (.iload_n 2, 1) := by decide +kernel
theorem d_S_groupsStand_147 : decode b_S_groupsStand 147 = .ok (.iconst 2, 1) := by decide +kernel
theorem d_S_groupsStand_148 : decode b_S_groupsStand 148 = .ok (.invokevirtual 125, 3) := by decide +kernel
theorem d_S_groupsStand_151 : decode b_S_groupsStand 151 = .ok (.aload_n 0, 1) := by decide +kernel
theorem d_S_groupsStand_152 : decode b_S_groupsStand 152 = .ok (.lload 5, 2) := by decide +kernel
theorem d_S_groupsStand_154 : decode b_S_groupsStand 154 = .ok (.l2i, 1) := by decide +kernel
theorem d_S_groupsStand_155 : decode b_S_groupsStand 155 = .ok (.iconst 2, 1) := by decide +kernel
theorem d_S_groupsStand_156 : decode b_S_groupsStand 156 = .ok (.iload 4, 2) := by decide +kernel
theorem d_S_groupsStand_158 : decode b_S_groupsStand 158 = .ok (.iadd, 1) := by decide +kernel
theorem d_S_groupsStand_159 : decode b_S_groupsStand 159 = .ok (.invokevirtual 125, 3) := by decide +kernel
theorem d_S_groupsStand_162 : decode b_S_groupsStand 162 = .ok (.iinc 1 1, 3) := by decide +kernel
theorem d_S_groupsStand_165 : decode b_S_groupsStand 165 = .ok (.goto (-155), 3) := by decide +kernel
theorem d_S_groupsStand_168 : decode b_S_groupsStand 168 = .ok (.iconst 1, 1) := by decide +kernel
theorem d_S_groupsStand_169 : decode b_S_groupsStand 169 = .ok (.ireturn, 1) := by decide +kernel
theorem d_S_spareAreZero_0 : decode b_S_spareAreZero 0 = .ok (.aload_n 0, 1) := by decide +kernel
theorem d_S_spareAreZero_1 : decode b_S_spareAreZero 1 = .ok (.getfield 15, 3) := by decide +kernel
theorem d_S_spareAreZero_4 : decode b_S_spareAreZero 4 = .ok (.iload_n 1, 1) := by decide +kernel
theorem d_S_spareAreZero_5 : decode b_S_spareAreZero 5 = .ok (.invokevirtual 178, 3) := by decide +kernel
theorem d_S_spareAreZero_8 : decode b_S_spareAreZero 8 = .ok (.lstore_n 3, 1) := by decide +kernel
theorem d_S_spareAreZero_9 : decode b_S_spareAreZero 9 = .ok (.iload_n 2, 1) := by decide +kernel
theorem d_S_spareAreZero_10 : decode b_S_spareAreZero 10 = .ok (.istore 5, 2) := by decide +kernel
theorem d_S_spareAreZero_12 : decode b_S_spareAreZero 12 = .ok (.iload 5, 2) := by decide +kernel
theorem d_S_spareAreZero_14 : decode b_S_spareAreZero 14 = .ok (.bipush 12, 2) := by decide +kernel
theorem d_S_spareAreZero_16 : decode b_S_spareAreZero 16 = .ok (.if_icmp .ge 35, 3) := by decide +kernel
theorem d_S_spareAreZero_19 : decode b_S_spareAreZero 19 = .ok (.aload_n 0, 1) := by decide +kernel
theorem d_S_spareAreZero_20 : decode b_S_spareAreZero 20 = .ok (.getfield 9, 3) := by decide +kernel
theorem d_S_spareAreZero_23 : decode b_S_spareAreZero 23 = .ok (.lload_n 3, 1) := by decide +kernel
theorem d_S_spareAreZero_24 : decode b_S_spareAreZero 24 = .ok (.ldc2_w 181, 3) := by decide +kernel
theorem d_S_spareAreZero_27 : decode b_S_spareAreZero 27 = .ok (.ladd, 1) := by decide +kernel
theorem d_S_spareAreZero_28 : decode b_S_spareAreZero 28 = .ok (.iconst 4, 1) := by decide +kernel
theorem d_S_spareAreZero_29 : decode b_S_spareAreZero 29 = .ok (.iload 5, 2) := by decide +kernel
theorem d_S_spareAreZero_31 : decode b_S_spareAreZero 31 = .ok (.imul, 1) := by decide +kernel
theorem d_S_spareAreZero_32 : decode b_S_spareAreZero 32 = .ok (.i2l, 1) := by decide +kernel
theorem d_S_spareAreZero_33 : decode b_S_spareAreZero 33 = .ok (.ladd, 1) := by decide +kernel
theorem d_S_spareAreZero_34 : decode b_S_spareAreZero 34 = .ok (.iconst 4, 1) := by decide +kernel
theorem d_S_spareAreZero_35 : decode b_S_spareAreZero 35 = .ok (.invokevirtual 88, 3) := by decide +kernel
theorem d_S_spareAreZero_38 : decode b_S_spareAreZero 38 = .ok (.lconst 0, 1) := by decide +kernel
theorem d_S_spareAreZero_39 : decode b_S_spareAreZero 39 = .ok (.lcmp, 1) := by decide +kernel
theorem d_S_spareAreZero_40 : decode b_S_spareAreZero 40 = .ok (.ifCond .eq 5, 3) := by decide +kernel
theorem d_S_spareAreZero_43 : decode b_S_spareAreZero 43 = .ok (.iconst 0, 1) := by decide +kernel
theorem d_S_spareAreZero_44 : decode b_S_spareAreZero 44 = .ok (.ireturn, 1) := by decide +kernel
theorem d_S_spareAreZero_45 : decode b_S_spareAreZero 45 = .ok (.iinc 5 1, 3) := by decide +kernel
theorem d_S_spareAreZero_48 : decode b_S_spareAreZero 48 = .ok (.goto (-36), 3) := by decide +kernel
theorem d_S_spareAreZero_51 : decode b_S_spareAreZero 51 = .ok (.iload_n 2, 1) := by decide +kernel
theorem d_S_spareAreZero_52 : decode b_S_spareAreZero 52 = .ok (.bipush 12, 2) := by decide +kernel
theorem d_S_spareAreZero_54 : decode b_S_spareAreZero 54 = .ok (.if_icmp .gt 21, 3) := by decide +kernel
theorem d_S_spareAreZero_57 : decode b_S_spareAreZero 57 = .ok (.aload_n 0, 1) := by decide +kernel
theorem d_S_spareAreZero_58 : decode b_S_spareAreZero 58 = .ok (.getfield 9, 3) := by decide +kernel
theorem d_S_spareAreZero_61 : decode b_S_spareAreZero 61 = .ok (.lload_n 3, 1) := by decide +kernel
theorem d_S_spareAreZero_62 : decode b_S_spareAreZero 62 = .ok (.ldc2_w 183, 3) := by decide +kernel
theorem d_S_spareAreZero_65 : decode b_S_spareAreZero 65 = .ok (.ladd, 1) := by decide +kernel
theorem d_S_spareAreZero_66 : decode b_S_spareAreZero 66 = .ok (.iconst 4, 1) := by decide +kernel
theorem d_S_spareAreZero_67 : decode b_S_spareAreZero 67 = .ok (.invokevirtual 88, 3) := by decide +kernel
theorem d_S_spareAreZero_70 : decode b_S_spareAreZero 70 = .ok (.lconst 0, 1) := by decide +kernel
theorem d_S_spareAreZero_71 : decode b_S_spareAreZero 71 = .ok (.lcmp, 1) := by decide +kernel
theorem d_S_spareAreZero_72 : decode b_S_spareAreZero 72 = .ok (.ifCond .ne 50, 3) := by decide +kernel
theorem d_S_spareAreZero_75 : decode b_S_spareAreZero 75 = .ok (.iload_n 2, 1) := by decide +kernel
theorem d_S_spareAreZero_76 : decode b_S_spareAreZero 76 = .ok (.sipush 268, 3) := by decide +kernel
theorem d_S_spareAreZero_79 : decode b_S_spareAreZero 79 = .ok (.if_icmp .gt 21, 3) := by decide +kernel
theorem d_S_spareAreZero_82 : decode b_S_spareAreZero 82 = .ok (.aload_n 0, 1) := by decide +kernel
theorem d_S_spareAreZero_83 : decode b_S_spareAreZero 83 = .ok (.getfield 9, 3) := by decide +kernel
theorem d_S_spareAreZero_86 : decode b_S_spareAreZero 86 = .ok (.lload_n 3, 1) := by decide +kernel
theorem d_S_spareAreZero_87 : decode b_S_spareAreZero 87 = .ok (.ldc2_w 185, 3) := by decide +kernel
theorem d_S_spareAreZero_90 : decode b_S_spareAreZero 90 = .ok (.ladd, 1) := by decide +kernel
theorem d_S_spareAreZero_91 : decode b_S_spareAreZero 91 = .ok (.iconst 4, 1) := by decide +kernel
theorem d_S_spareAreZero_92 : decode b_S_spareAreZero 92 = .ok (.invokevirtual 88, 3) := by decide +kernel
theorem d_S_spareAreZero_95 : decode b_S_spareAreZero 95 = .ok (.lconst 0, 1) := by decide +kernel
theorem d_S_spareAreZero_96 : decode b_S_spareAreZero 96 = .ok (.lcmp, 1) := by decide +kernel
theorem d_S_spareAreZero_97 : decode b_S_spareAreZero 97 = .ok (.ifCond .ne 25, 3) := by decide +kernel
theorem d_S_spareAreZero_100 : decode b_S_spareAreZero 100 = .ok (.aload_n 0, 1) := by decide +kernel
theorem d_S_spareAreZero_101 : decode b_S_spareAreZero 101 = .ok (.getfield 9, 3) := by decide +kernel
theorem d_S_spareAreZero_104 : decode b_S_spareAreZero 104 = .ok (.lload_n 3, 1) := by decide +kernel
theorem d_S_spareAreZero_105 : decode b_S_spareAreZero 105 = .ok (.ldc2_w 187, 3) := by decide +kernel
theorem d_S_spareAreZero_108 : decode b_S_spareAreZero 108 = .ok (.ladd, 1) := by decide +kernel
theorem d_S_spareAreZero_109 : decode b_S_spareAreZero 109 = .ok (.iconst 4, 1) := by decide +kernel
theorem d_S_spareAreZero_110 : decode b_S_spareAreZero 110 = .ok (.invokevirtual 88, 3) := by decide +kernel
theorem d_S_spareAreZero_113 : decode b_S_spareAreZero 113 = .ok (.lconst 0, 1) := by decide +kernel
theorem d_S_spareAreZero_114 : decode b_S_spareAreZero 114 = .ok (.lcmp, 1) := by decide +kernel
theorem d_S_spareAreZero_115 : decode b_S_spareAreZero 115 = .ok (.ifCond .ne 7, 3) := by decide +kernel
theorem d_S_spareAreZero_118 : decode b_S_spareAreZero 118 = .ok (.iconst 1, 1) := by decide +kernel
theorem d_S_spareAreZero_119 : decode b_S_spareAreZero 119 = .ok (.goto 4, 3) := by decide +kernel
theorem d_S_spareAreZero_122 : decode b_S_spareAreZero 122 = .ok (.iconst 0, 1) := by decide +kernel
theorem d_S_spareAreZero_123 : decode b_S_spareAreZero 123 = .ok (.ireturn, 1) := by decide +kernel
theorem d_S_take_0 : decode b_S_take 0 = .ok (.lload_n 1, 1) := by decide +kernel
theorem d_S_take_1 : decode b_S_take 1 = .ok (.lconst 1, 1) := by decide +kernel
theorem d_S_take_2 : decode b_S_take 2 = .ok (.lcmp, 1) := by decide +kernel
theorem d_S_take_3 : decode b_S_take 3 = .ok (.ifCond .lt 27, 3) := by decide +kernel
theorem d_S_take_6 : decode b_S_take 6 = .ok (.lload_n 1, 1) := by decide +kernel
theorem d_S_take_7 : decode b_S_take 7 = .ok (.aload_n 0, 1) := by decide +kernel
theorem d_S_take_8 : decode b_S_take 8 = .ok (.getfield 9, 3) := by decide +kernel
theorem d_S_take_11 : decode b_S_take 11 = .ok (.invokevirtual 72, 3) := by decide +kernel
theorem d_S_take_14 : decode b_S_take 14 = .ok (.i2l, 1) := by decide +kernel
theorem d_S_take_15 : decode b_S_take 15 = .ok (.lcmp, 1) := by decide +kernel
theorem d_S_take_16 : decode b_S_take 16 = .ok (.ifCond .ge 14, 3) := by decide +kernel
theorem d_S_take_19 : decode b_S_take 19 = .ok (.lload_n 1, 1) := by decide +kernel
theorem d_S_take_20 : decode b_S_take 20 = .ok (.aload_n 0, 1) := by decide +kernel
theorem d_S_take_21 : decode b_S_take 21 = .ok (.getfield 23, 3) := by decide +kernel
theorem d_S_take_24 : decode b_S_take 24 = .ok (.arraylength, 1) := by decide +kernel
theorem d_S_take_25 : decode b_S_take 25 = .ok (.i2l, 1) := by decide +kernel
theorem d_S_take_26 : decode b_S_take 26 = .ok (.lcmp, 1) := by decide +kernel
theorem d_S_take_27 : decode b_S_take 27 = .ok (.ifCond .lt 5, 3) := by decide +kernel
theorem d_S_take_30 : decode b_S_take 30 = .ok (.iconst 0, 1) := by decide +kernel
theorem d_S_take_31 : decode b_S_take 31 = .ok (.ireturn, 1) := by decide +kernel
theorem d_S_take_32 : decode b_S_take 32 = .ok (.lload_n 1, 1) := by decide +kernel
theorem d_S_take_33 : decode b_S_take 33 = .ok (.l2i, 1) := by decide +kernel
theorem d_S_take_34 : decode b_S_take 34 = .ok (.istore_n 3, 1) := by decide +kernel
theorem d_S_take_35 : decode b_S_take 35 = .ok (.aload_n 0, 1) := by decide +kernel
theorem d_S_take_36 : decode b_S_take 36 = .ok (.getfield 23, 3) := by decide +kernel
theorem d_S_take_39 : decode b_S_take 39 = .ok (.iload_n 3, 1) := by decide +kernel
theorem d_S_take_40 : decode b_S_take 40 = .ok (.iaload, 1) := by decide +kernel
theorem d_S_take_41 : decode b_S_take 41 = .ok (.ifCond .eq 5, 3) := by decide +kernel
theorem d_S_take_44 : decode b_S_take 44 = .ok (.iconst 0, 1) := by decide +kernel
theorem d_S_take_45 : decode b_S_take 45 = .ok (.ireturn, 1) := by decide +kernel
theorem d_S_take_46 : decode b_S_take 46 = .ok (.aload_n 0, 1) := by decide +kernel
theorem d_S_take_47 : decode b_S_take 47 = .ok (.getfield 23, 3) := by decide +kernel
theorem d_S_take_50 : decode b_S_take 50 = .ok (.iload_n 3, 1) := by decide +kernel
theorem d_S_take_51 : decode b_S_take 51 = .ok (.iconst 1, 1) := by decide +kernel
theorem d_S_take_52 : decode b_S_take 52 = .ok (.iastore, 1) := by decide +kernel
theorem d_S_take_53 : decode b_S_take 53 = .ok (.iconst 1, 1) := by decide +kernel
theorem d_S_take_54 : decode b_S_take 54 = .ok (.ireturn, 1) := by decide +kernel
theorem d_S_takeWhole_0 : decode b_S_takeWhole 0 = .ok (.aload_n 0, 1) := by decide +kernel
theorem d_S_takeWhole_1 : decode b_S_takeWhole 1 = .ok (.getfield 15, 3) := by decide +kernel
theorem d_S_takeWhole_4 : decode b_S_takeWhole 4 = .ok (.iload_n 1, 1) := by decide +kernel
theorem d_S_takeWhole_5 : decode b_S_takeWhole 5 = .ok (.invokevirtual 156, 3) := by decide +kernel
theorem d_S_takeWhole_8 : decode b_S_takeWhole 8 = .ok (.lstore_n 2, 1) := by decide +kernel
theorem d_S_takeWhole_9 : decode b_S_takeWhole 9 = .ok (.lload_n 2, 1) := by decide +kernel
theorem d_S_takeWhole_10 : decode b_S_takeWhole 10 = .ok (.ldc2_w 103, 3) := by decide +kernel
theorem d_S_takeWhole_13 : decode b_S_takeWhole 13 = .ok (.aload_n 0, 1) := by decide +kernel
theorem d_S_takeWhole_14 : decode b_S_takeWhole 14 = .ok (.getfield 9, 3) := by decide +kernel
theorem d_S_takeWhole_17 : decode b_S_takeWhole 17 = .ok (.invokevirtual 72, 3) := by decide +kernel
theorem d_S_takeWhole_20 : decode b_S_takeWhole 20 = .ok (.i2l, 1) := by decide +kernel
theorem d_S_takeWhole_21 : decode b_S_takeWhole 21 = .ok (.lmul, 1) := by decide +kernel
theorem d_S_takeWhole_22 : decode b_S_takeWhole 22 = .ok (.lcmp, 1) := by decide +kernel
theorem d_S_takeWhole_23 : decode b_S_takeWhole 23 = .ok (.ifCond .le 5, 3) := by decide +kernel
theorem d_S_takeWhole_26 : decode b_S_takeWhole 26 = .ok (.iconst 0, 1) := by decide +kernel
theorem d_S_takeWhole_27 : decode b_S_takeWhole 27 = .ok (.ireturn, 1) := by decide +kernel
theorem d_S_takeWhole_28 : decode b_S_takeWhole 28 = .ok (.aload_n 0, 1) := by decide +kernel
theorem d_S_takeWhole_29 : decode b_S_takeWhole 29 = .ok (.getfield 15, 3) := by decide +kernel
theorem d_S_takeWhole_32 : decode b_S_takeWhole 32 = .ok (.lload_n 2, 1) := by decide +kernel
theorem d_S_takeWhole_33 : decode b_S_takeWhole 33 = .ok (.invokevirtual 160, 3) := by decide +kernel
theorem d_S_takeWhole_36 : decode b_S_takeWhole 36 = .ok (.istore 4, 2) := by decide +kernel
theorem d_S_takeWhole_38 : decode b_S_takeWhole 38 = .ok (.iload 4, 2) := by decide +kernel
theorem d_S_takeWhole_40 : decode b_S_takeWhole 40 = .ok (.sipush 268, 3) := by decide +kernel
theorem d_S_takeWhole_43 : decode b_S_takeWhole 43 = .ok (.if_icmp .le 22, 3) := by decide +kernel
theorem d_S_takeWhole_46 : decode b_S_takeWhole 46 = .ok (.iload 4, 2) := by decide +kernel
theorem d_S_takeWhole_48 : decode b_S_takeWhole 48 = .ok (.sipush 268, 3) := by decide +kernel
theorem d_S_takeWhole_51 : decode b_S_takeWhole 51 = .ok (.isub, 1) := by decide +kernel
theorem d_S_takeWhole_52 : decode b_S_takeWhole 52 = .ok (.sipush 256, 3) := by decide +kernel
theorem d_S_takeWhole_55 : decode b_S_takeWhole 55 = .ok (.iadd, 1) := by decide +kernel
theorem d_S_takeWhole_56 : decode b_S_takeWhole 56 = .ok (.iconst 1, 1) := by decide +kernel
theorem d_S_takeWhole_57 : decode b_S_takeWhole 57 = .ok (.isub, 1) := by decide +kernel
theorem d_S_takeWhole_58 : decode b_S_takeWhole 58 = .ok (.sipush 256, 3) := by decide +kernel
theorem d_S_takeWhole_61 : decode b_S_takeWhole 61 = .ok (.idiv, 1) := by decide +kernel
theorem d_S_takeWhole_62 : decode b_S_takeWhole 62 = .ok (.goto 4, 3) := by decide +kernel
theorem d_S_takeWhole_65 : decode b_S_takeWhole 65 = .ok (.iconst 0, 1) := by decide +kernel
theorem d_S_takeWhole_66 : decode b_S_takeWhole 66 = .ok (.istore 5, 2) := by decide +kernel
theorem d_S_takeWhole_68 : decode b_S_takeWhole 68 = .ok (.iload 4, 2) := by decide +kernel
theorem d_S_takeWhole_70 : decode b_S_takeWhole 70 = .ok (.bipush 12, 2) := by decide +kernel
theorem d_S_takeWhole_72 : decode b_S_takeWhole 72 = .ok (.if_icmp .le 7, 3) := by decide +kernel
theorem d_S_takeWhole_75 : decode b_S_takeWhole 75 = .ok (.iconst 1, 1) := by decide +kernel
theorem d_S_takeWhole_76 : decode b_S_takeWhole 76 = .ok (.goto 4, 3) := by decide +kernel
theorem d_S_takeWhole_79 : decode b_S_takeWhole 79 = .ok (.iconst 0, 1) := by decide +kernel
theorem d_S_takeWhole_80 : decode b_S_takeWhole 80 = .ok (.iload 4, 2) := by decide +kernel
theorem d_S_takeWhole_82 : decode b_S_takeWhole 82 = .ok (.sipush 268, 3) := by decide +kernel
theorem d_S_takeWhole_85 : decode b_S_takeWhole 85 = .ok (.if_icmp .le 7, 3) := by decide +kernel
theorem d_S_takeWhole_88 : decode b_S_takeWhole 88 = .ok (.iconst 1, 1) := by decide +kernel
theorem d_S_takeWhole_89 : decode b_S_takeWhole 89 = .ok (.goto 4, 3) := by decide +kernel
theorem d_S_takeWhole_92 : decode b_S_takeWhole 92 = .ok (.iconst 0, 1) := by decide +kernel
theorem d_S_takeWhole_93 : decode b_S_takeWhole 93 = .ok (.iadd, 1) := by decide +kernel
theorem d_S_takeWhole_94 : decode b_S_takeWhole 94 = .ok (.iload 5, 2) := by decide +kernel
theorem d_S_takeWhole_96 : decode b_S_takeWhole 96 = .ok (.iadd, 1) := by decide +kernel
theorem d_S_takeWhole_97 : decode b_S_takeWhole 97 = .ok (.istore 6, 2) := by decide +kernel
theorem d_S_takeWhole_99 : decode b_S_takeWhole 99 = .ok (.aload_n 0, 1) := by decide +kernel
theorem d_S_takeWhole_100 : decode b_S_takeWhole 100 = .ok (.getfield 15, 3) := by decide +kernel
theorem d_S_takeWhole_103 : decode b_S_takeWhole 103 = .ok (.iload_n 1, 1) := by decide +kernel
theorem d_S_takeWhole_104 : decode b_S_takeWhole 104 = .ok (.bipush 28, 2) := by decide +kernel
theorem d_S_takeWhole_106 : decode b_S_takeWhole 106 = .ok (.iconst 4, 1) := by decide +kernel
theorem d_S_takeWhole_107 : decode b_S_takeWhole 107 = .ok (.invokevirtual 164, 3) := by decide +kernel
theorem d_S_takeWhole_110 : decode b_S_takeWhole 110 = .ok (.iconst 2, 1) := by decide +kernel
theorem d_S_takeWhole_111 : decode b_S_takeWhole 111 = .ok (.iload 4, 2) := by decide +kernel
theorem d_S_takeWhole_113 : decode b_S_takeWhole 113 = .ok (.iload 6, 2) := by decide +kernel
theorem d_S_takeWhole_115 : decode b_S_takeWhole 115 = .ok (.iadd, 1) := by decide +kernel
theorem d_S_takeWhole_116 : decode b_S_takeWhole 116 = .ok (.imul, 1) := by decide +kernel
theorem d_S_takeWhole_117 : decode b_S_takeWhole 117 = .ok (.i2l, 1) := by decide +kernel
theorem d_S_takeWhole_118 : decode b_S_takeWhole 118 = .ok (.lcmp, 1) := by decide +kernel
theorem d_S_takeWhole_119 : decode b_S_takeWhole 119 = .ok (.ifCond .ne 13, 3) := by decide +kernel
theorem d_S_takeWhole_122 : decode b_S_takeWhole 122 = .ok (.aload_n 0, 1) := by decide +kernel
theorem d_S_takeWhole_123 : decode b_S_takeWhole 123 = .ok (.iload_n 1, 1) := by decide +kernel
theorem d_S_takeWhole_124 : decode b_S_takeWhole 124 = .ok (.iload 4, 2) := by decide +kernel
theorem d_S_takeWhole_126 : decode b_S_takeWhole 126 = .ok (.invokevirtual 167, 3) := by decide +kernel
theorem d_S_takeWhole_129 : decode b_S_takeWhole 129 = .ok (.ifCond .ne 5, 3) := by decide +kernel
theorem d_S_takeWhole_132 : decode b_S_takeWhole 132 = .ok (.iconst 0, 1) := by decide +kernel
theorem d_S_takeWhole_133 : decode b_S_takeWhole 133 = .ok (.ireturn, 1) := by decide +kernel
theorem d_S_takeWhole_134 : decode b_S_takeWhole 134 = .ok (.iload 4, 2) := by decide +kernel
theorem d_S_takeWhole_136 : decode b_S_takeWhole 136 = .ok (.bipush 12, 2) := by decide +kernel
theorem d_S_takeWhole_138 : decode b_S_takeWhole 138 = .ok (.if_icmp .le 23, 3) := by decide +kernel
theorem d_S_takeWhole_141 : decode b_S_takeWhole 141 = .ok (.aload_n 0, 1) := by decide +kernel
theorem d_S_takeWhole_142 : decode b_S_takeWhole 142 = .ok (.aload_n 0, 1) := by decide +kernel
theorem d_S_takeWhole_143 : decode b_S_takeWhole 143 = .ok (.getfield 15, 3) := by decide +kernel
theorem d_S_takeWhole_146 : decode b_S_takeWhole 146 = .ok (.iload_n 1, 1) := by decide +kernel
theorem d_S_takeWhole_147 : decode b_S_takeWhole 147 = .ok (.bipush 88, 2) := by decide +kernel
theorem d_S_takeWhole_149 : decode b_S_takeWhole 149 = .ok (.iconst 4, 1) := by decide +kernel
theorem d_S_takeWhole_150 : decode b_S_takeWhole 150 = .ok (.invokevirtual 164, 3) := by decide +kernel
theorem d_S_takeWhole_153 : decode b_S_takeWhole 153 = .ok (.invokevirtual 170, 3) := by decide +kernel
theorem d_S_takeWhole_156 : decode b_S_takeWhole 156 = .ok (.ifCond .ne 5, 3) := by decide +kernel
theorem d_S_takeWhole_159 : decode b_S_takeWhole 159 = .ok (.iconst 0, 1) := by decide +kernel
theorem d_S_takeWhole_160 : decode b_S_takeWhole 160 = .ok (.ireturn, 1) := by decide +kernel
theorem d_S_takeWhole_161 : decode b_S_takeWhole 161 = .ok (.aload_n 0, 1) := by decide +kernel
theorem d_S_takeWhole_162 : decode b_S_takeWhole 162 = .ok (.getfield 15, 3) := by decide +kernel
theorem d_S_takeWhole_165 : decode b_S_takeWhole 165 = .ok (.iload_n 1, 1) := by decide +kernel
theorem d_S_takeWhole_166 : decode b_S_takeWhole 166 = .ok (.bipush 92, 2) := by decide +kernel
theorem d_S_takeWhole_168 : decode b_S_takeWhole 168 = .ok (.iconst 4, 1) := by decide +kernel
theorem d_S_takeWhole_169 : decode b_S_takeWhole 169 = .ok (.invokevirtual 164, 3) := by decide +kernel
theorem d_S_takeWhole_172 : decode b_S_takeWhole 172 = .ok (.lstore 7, 2) := by decide +kernel
theorem d_S_takeWhole_174 : decode b_S_takeWhole 174 = .ok (.iload 4, 2) := by decide +kernel
theorem d_S_takeWhole_176 : decode b_S_takeWhole 176 = .ok (.sipush 268, 3) := by decide +kernel
theorem d_S_takeWhole_179 : decode b_S_takeWhole 179 = .ok (.if_icmp .le 14, 3) := by decide +kernel
theorem d_S_takeWhole_182 : decode b_S_takeWhole 182 = .ok (.aload_n 0, 1) := by decide +kernel
theorem d_S_takeWhole_183 : decode b_S_takeWhole 183 = .ok (.lload 7, 2) := by decide +kernel
theorem d_S_takeWhole_185 : decode b_S_takeWhole 185 = .ok (.invokevirtual 170, 3) := by decide +kernel
theorem d_S_takeWhole_188 : decode b_S_takeWhole 188 = .ok (.ifCond .ne 5, 3) := by decide +kernel
theorem d_S_takeWhole_191 : decode b_S_takeWhole 191 = .ok (.iconst 0, 1) := by decide +kernel
theorem d_S_takeWhole_192 : decode b_S_takeWhole 192 = .ok (.ireturn, 1) := by decide +kernel
theorem d_S_takeWhole_193 : decode b_S_takeWhole 193 = .ok (.iconst 0, 1) := by decide +kernel
theorem d_S_takeWhole_194 : decode b_S_takeWhole 194 = .ok (.istore 9, 2) := by decide +kernel
theorem d_S_takeWhole_196 : decode b_S_takeWhole 196 = .ok (.iload 9, 2) := by decide +kernel
theorem d_S_takeWhole_198 : decode b_S_takeWhole 198 = .ok (.iload 5, 2) := by decide +kernel
theorem d_S_takeWhole_200 : decode b_S_takeWhole 200 = .ok (.if_icmp .ge 38, 3) := by decide +kernel
theorem d_S_takeWhole_203 : decode b_S_takeWhole 203 = .ok (.aload_n 0, 1) := by decide +kernel
theorem d_S_takeWhole_204 : decode b_S_takeWhole 204 = .ok (.aload_n 0, 1) := by decide +kernel
theorem d_S_takeWhole_205 : decode b_S_takeWhole 205 = .ok (.getfield 9, 3) := by decide +kernel
theorem d_S_takeWhole_208 : decode b_S_takeWhole 208 = .ok (.ldc2_w 103, 3) := by decide +kernel
theorem d_S_takeWhole_211 : decode b_S_takeWhole 211 = .ok (.lload 7, 2) := by decide +kernel
theorem d_S_takeWhole_213 : decode b_S_takeWhole 213 = .ok (.lmul, 1) := by decide +kernel
theorem d_S_takeWhole_214 : decode b_S_takeWhole 214 = .ok (.iconst 4, 1) := by decide +kernel
theorem d_S_takeWhole_215 : decode b_S_takeWhole 215 = .ok (.iload 9, 2) := by decide +kernel
theorem d_S_takeWhole_217 : decode b_S_takeWhole 217 = .ok (.imul, 1) := by decide +kernel
theorem d_S_takeWhole_218 : decode b_S_takeWhole 218 = .ok (.i2l, 1) := by decide +kernel
theorem d_S_takeWhole_219 : decode b_S_takeWhole 219 = .ok (.ladd, 1) := by decide +kernel
theorem d_S_takeWhole_220 : decode b_S_takeWhole 220 = .ok (.iconst 4, 1) := by decide +kernel
theorem d_S_takeWhole_221 : decode b_S_takeWhole 221 = .ok (.invokevirtual 88, 3) := by decide +kernel
theorem d_S_takeWhole_224 : decode b_S_takeWhole 224 = .ok (.invokevirtual 170, 3) := by decide +kernel
theorem d_S_takeWhole_227 : decode b_S_takeWhole 227 = .ok (.ifCond .ne 5, 3) := by decide +kernel
theorem d_S_takeWhole_230 : decode b_S_takeWhole 230 = .ok (.iconst 0, 1) := by decide +kernel
theorem d_S_takeWhole_231 : decode b_S_takeWhole 231 = .ok (.ireturn, 1) := by decide +kernel
theorem d_S_takeWhole_232 : decode b_S_takeWhole 232 = .ok (.iinc 9 1, 3) := by decide +kernel
theorem d_S_takeWhole_235 : decode b_S_takeWhole 235 = .ok (.goto (-39), 3) := by decide +kernel
theorem d_S_takeWhole_238 : decode b_S_takeWhole 238 = .ok (.iconst 0, 1) := by decide +kernel
theorem d_S_takeWhole_239 : decode b_S_takeWhole 239 = .ok (.istore 9, 2) := by decide +kernel
theorem d_S_takeWhole_241 : decode b_S_takeWhole 241 = .ok (.iload 9, 2) := by decide +kernel
theorem d_S_takeWhole_243 : decode b_S_takeWhole 243 = .ok (.iload 4, 2) := by decide +kernel
theorem d_S_takeWhole_245 : decode b_S_takeWhole 245 = .ok (.if_icmp .ge 28, 3) := by decide +kernel
theorem d_S_takeWhole_248 : decode b_S_takeWhole 248 = .ok (.aload_n 0, 1) := by decide +kernel
theorem d_S_takeWhole_249 : decode b_S_takeWhole 249 = .ok (.aload_n 0, 1) := by decide +kernel
theorem d_S_takeWhole_250 : decode b_S_takeWhole 250 = .ok (.getfield 15, 3) := by decide +kernel
theorem d_S_takeWhole_253 : decode b_S_takeWhole 253 = .ok (.iload_n 1, 1) := by decide +kernel
theorem d_S_takeWhole_254 : decode b_S_takeWhole 254 = .ok (.iload 9, 2) := by decide +kernel
theorem d_S_takeWhole_256 : decode b_S_takeWhole 256 = .ok (.invokevirtual 174, 3) := by decide +kernel
theorem d_S_takeWhole_259 : decode b_S_takeWhole 259 = .ok (.invokevirtual 170, 3) := by decide +kernel
theorem d_S_takeWhole_262 : decode b_S_takeWhole 262 = .ok (.ifCond .ne 5, 3) := by decide +kernel
theorem d_S_takeWhole_265 : decode b_S_takeWhole 265 = .ok (.iconst 0, 1) := by decide +kernel
theorem d_S_takeWhole_266 : decode b_S_takeWhole 266 = .ok (.ireturn, 1) := by decide +kernel
theorem d_S_takeWhole_267 : decode b_S_takeWhole 267 = .ok (.iinc 9 1, 3) := by decide +kernel
theorem d_S_takeWhole_270 : decode b_S_takeWhole 270 = .ok (.goto (-29), 3) := by decide +kernel
theorem d_S_takeWhole_273 : decode b_S_takeWhole 273 = .ok (.iconst 1, 1) := by decide +kernel
theorem d_S_takeWhole_274 : decode b_S_takeWhole 274 = .ok (.ireturn, 1) := by decide +kernel
theorem d_S_standInLine_0 : decode b_S_standInLine 0 = .ok (.iload_n 1, 1) := by decide +kernel
theorem d_S_standInLine_1 : decode b_S_standInLine 1 = .ok (.iconst 1, 1) := by decide +kernel
theorem d_S_standInLine_2 : decode b_S_standInLine 2 = .ok (.if_icmp .lt 31, 3) := by decide +kernel
theorem d_S_standInLine_5 : decode b_S_standInLine 5 = .ok (.iload_n 1, 1) := by decide +kernel
theorem d_S_standInLine_6 : decode b_S_standInLine 6 = .ok (.aload_n 0, 1) := by decide +kernel
theorem d_S_standInLine_7 : decode b_S_standInLine 7 = .ok (.getfield 27, 3) := by decide +kernel
theorem d_S_standInLine_10 : decode b_S_standInLine 10 = .ok (.arraylength, 1) := by decide +kernel
theorem d_S_standInLine_11 : decode b_S_standInLine 11 = .ok (.if_icmp .ge 22, 3) := by decide +kernel
theorem d_S_standInLine_14 : decode b_S_standInLine 14 = .ok (.aload_n 0, 1) := by decide +kernel
theorem d_S_standInLine_15 : decode b_S_standInLine 15 = .ok (.getfield 134, 3) := by decide +kernel
theorem d_S_standInLine_18 : decode b_S_standInLine 18 = .ok (.ifCond .lt 15, 3) := by decide +kernel
theorem d_S_standInLine_21 : decode b_S_standInLine 21 = .ok (.aload_n 0, 1) := by decide +kernel
theorem d_S_standInLine_22 : decode b_S_standInLine 22 = .ok (.getfield 134, 3) := by decide +kernel
theorem d_S_standInLine_25 : decode b_S_standInLine 25 = .ok (.aload_n 0, 1) := by decide +kernel
theorem d_S_standInLine_26 : decode b_S_standInLine 26 = .ok (.getfield 30, 3) := by decide +kernel
theorem d_S_standInLine_29 : decode b_S_standInLine 29 = .ok (.arraylength, 1) := by decide +kernel
theorem d_S_standInLine_30 : decode b_S_standInLine 30 = .ok (.if_icmp .lt 4, 3) := by decide +kernel
theorem d_S_standInLine_33 : decode b_S_standInLine 33 = .ok (.return_, 1) := by decide +kernel
theorem d_S_standInLine_34 : decode b_S_standInLine 34 = .ok (.aload_n 0, 1) := by decide +kernel
theorem d_S_standInLine_35 : decode b_S_standInLine 35 = .ok (.getfield 27, 3) := by decide +kernel
theorem d_S_standInLine_38 : decode b_S_standInLine 38 = .ok (.iload_n 1, 1) := by decide +kernel
theorem d_S_standInLine_39 : decode b_S_standInLine 39 = .ok (.iconst 1, 1) := by decide +kernel
theorem d_S_standInLine_40 : decode b_S_standInLine 40 = .ok (.iastore, 1) := by decide +kernel
theorem d_S_standInLine_41 : decode b_S_standInLine 41 = .ok (.aload_n 0, 1) := by decide +kernel
theorem d_S_standInLine_42 : decode b_S_standInLine 42 = .ok (.getfield 30, 3) := by decide +kernel
theorem d_S_standInLine_45 : decode b_S_standInLine 45 = .ok (.aload_n 0, 1) := by decide +kernel
theorem d_S_standInLine_46 : decode b_S_standInLine 46 = .ok (.getfield 134, 3) := by decide +kernel
theorem d_S_standInLine_49 : decode b_S_standInLine 49 = .ok (.iload_n 1, 1) := by decide +kernel
theorem d_S_standInLine_50 : decode b_S_standInLine 50 = .ok (.iastore, 1) := by decide +kernel
theorem d_S_standInLine_51 : decode b_S_standInLine 51 = .ok (.aload_n 0, 1) := by decide +kernel
theorem d_S_standInLine_52 : decode b_S_standInLine 52 = .ok (.getfield 33, 3) := by decide +kernel
theorem d_S_standInLine_55 : decode b_S_standInLine 55 = .ok (.aload_n 0, 1) := by decide +kernel
theorem d_S_standInLine_56 : decode b_S_standInLine 56 = .ok (.getfield 134, 3) := by decide +kernel
theorem d_S_standInLine_59 : decode b_S_standInLine 59 = .ok (.iload_n 2, 1) := by decide +kernel
theorem d_S_standInLine_60 : decode b_S_standInLine 60 = .ok (.iastore, 1) := by decide +kernel
theorem d_S_standInLine_61 : decode b_S_standInLine 61 = .ok (.aload_n 0, 1) := by decide +kernel
theorem d_S_standInLine_62 : decode b_S_standInLine 62 = .ok (.getfield 36, 3) := by decide +kernel
theorem d_S_standInLine_65 : decode b_S_standInLine 65 = .ok (.aload_n 0, 1) := by decide +kernel
theorem d_S_standInLine_66 : decode b_S_standInLine 66 = .ok (.getfield 134, 3) := by decide +kernel
theorem d_S_standInLine_69 : decode b_S_standInLine 69 = .ok (.iconst 0, 1) := by decide +kernel
theorem d_S_standInLine_70 : decode b_S_standInLine 70 = .ok (.iastore, 1) := by decide +kernel
theorem d_S_standInLine_71 : decode b_S_standInLine 71 = .ok (.aload_n 0, 1) := by decide +kernel
theorem d_S_standInLine_72 : decode b_S_standInLine 72 = .ok (.dup, 1) := by decide +kernel
theorem d_S_standInLine_73 : decode b_S_standInLine 73 = .ok (.getfield 134, 3) := by decide +kernel
theorem d_S_standInLine_76 : decode b_S_standInLine 76 = .ok (.iconst 1, 1) := by decide +kernel
theorem d_S_standInLine_77 : decode b_S_standInLine 77 = .ok (.iadd, 1) := by decide +kernel
theorem d_S_standInLine_78 : decode b_S_standInLine 78 = .ok (.putfield 134, 3) := by decide +kernel
theorem d_S_standInLine_81 : decode b_S_standInLine 81 = .ok (.return_, 1) := by decide +kernel
theorem d_S_entryStands_0 : decode b_S_entryStands 0 = .ok (.aload_n 0, 1) := by decide +kernel
theorem d_S_entryStands_1 : decode b_S_entryStands 1 = .ok (.getfield 19, 3) := by decide +kernel
theorem d_S_entryStands_4 : decode b_S_entryStands 4 = .ok (.invokevirtual 214, 3) := by decide +kernel
theorem d_S_entryStands_7 : decode b_S_entryStands 7 = .ok (.ifCond .eq 13, 3) := by decide +kernel
theorem d_S_entryStands_10 : decode b_S_entryStands 10 = .ok (.aload_n 0, 1) := by decide +kernel
theorem d_S_entryStands_11 : decode b_S_entryStands 11 = .ok (.getfield 19, 3) := by decide +kernel
theorem d_S_entryStands_14 : decode b_S_entryStands 14 = .ok (.invokevirtual 217, 3) := by decide +kernel
theorem d_S_entryStands_17 : decode b_S_entryStands 17 = .ok (.ifCond .ne 5, 3) := by decide +kernel
theorem d_S_entryStands_20 : decode b_S_entryStands 20 = .ok (.iconst 0, 1) := by decide +kernel
theorem d_S_entryStands_21 : decode b_S_entryStands 21 = .ok (.ireturn, 1) := by decide +kernel
theorem d_S_entryStands_22 : decode b_S_entryStands 22 = .ok (.aload_n 0, 1) := by decide +kernel
theorem d_S_entryStands_23 : decode b_S_entryStands 23 = .ok (.getfield 19, 3) := by decide +kernel
theorem d_S_entryStands_26 : decode b_S_entryStands 26 = .ok (.invokevirtual 220, 3) := by decide +kernel
theorem d_S_entryStands_29 : decode b_S_entryStands 29 = .ok (.istore_n 3, 1) := by decide +kernel
theorem d_S_entryStands_30 : decode b_S_entryStands 30 = .ok (.aload_n 0, 1) := by decide +kernel
theorem d_S_entryStands_31 : decode b_S_entryStands 31 = .ok (.getfield 19, 3) := by decide +kernel
theorem d_S_entryStands_34 : decode b_S_entryStands 34 = .ok (.invokevirtual 211, 3) := by decide +kernel
theorem d_S_entryStands_37 : decode b_S_entryStands 37 = .ok (.ifCond .ne 35, 3) := by decide +kernel
theorem d_S_entryStands_40 : decode b_S_entryStands 40 = .ok (.aload_n 0, 1) := by decide +kernel
theorem d_S_entryStands_41 : decode b_S_entryStands 41 = .ok (.getfield 19, 3) := by decide +kernel
theorem d_S_entryStands_44 : decode b_S_entryStands 44 = .ok (.invokevirtual 223, 3) := by decide +kernel
theorem d_S_entryStands_47 : decode b_S_entryStands 47 = .ok (.ifCond .eq 23, 3) := by decide +kernel
theorem d_S_entryStands_50 : decode b_S_entryStands 50 = .ok (.iload_n 3, 1) := by decide +kernel
theorem d_S_entryStands_51 : decode b_S_entryStands 51 = .ok (.iload_n 1, 1) := by decide +kernel
theorem d_S_entryStands_52 : decode b_S_entryStands 52 = .ok (.if_icmp .ne 18, 3) := by decide +kernel
theorem d_S_entryStands_55 : decode b_S_entryStands 55 = .ok (.aload_n 0, 1) := by decide +kernel
theorem d_S_entryStands_56 : decode b_S_entryStands 56 = .ok (.getfield 19, 3) := by decide +kernel
theorem d_S_entryStands_59 : decode b_S_entryStands 59 = .ok (.invokevirtual 226, 3) := by decide +kernel
theorem d_S_entryStands_62 : decode b_S_entryStands 62 = .ok (.iconst 2, 1) := by decide +kernel
theorem d_S_entryStands_63 : decode b_S_entryStands 63 = .ok (.if_icmp .ne 7, 3) := by decide +kernel
theorem d_S_entryStands_66 : decode b_S_entryStands 66 = .ok (.iconst 1, 1) := by decide +kernel
theorem d_S_entryStands_67 : decode b_S_entryStands 67 = .ok (.goto 4, 3) := by decide +kernel
theorem d_S_entryStands_70 : decode b_S_entryStands 70 = .ok (.iconst 0, 1) := by decide +kernel
theorem d_S_entryStands_71 : decode b_S_entryStands 71 = .ok (.ireturn, 1) := by decide +kernel
theorem d_S_entryStands_72 : decode b_S_entryStands 72 = .ok (.aload_n 0, 1) := by decide +kernel
theorem d_S_entryStands_73 : decode b_S_entryStands 73 = .ok (.getfield 19, 3) := by decide +kernel
theorem d_S_entryStands_76 : decode b_S_entryStands 76 = .ok (.invokevirtual 211, 3) := by decide +kernel
theorem d_S_entryStands_79 : decode b_S_entryStands 79 = .ok (.iconst 1, 1) := by decide +kernel
theorem d_S_entryStands_80 : decode b_S_entryStands 80 = .ok (.if_icmp .ne 35, 3) := by decide +kernel
theorem d_S_entryStands_83 : decode b_S_entryStands 83 = .ok (.aload_n 0, 1) := by decide +kernel
theorem d_S_entryStands_84 : decode b_S_entryStands 84 = .ok (.getfield 19, 3) := by decide +kernel
theorem d_S_entryStands_87 : decode b_S_entryStands 87 = .ok (.invokevirtual 229, 3) := by decide +kernel
theorem d_S_entryStands_90 : decode b_S_entryStands 90 = .ok (.ifCond .eq 23, 3) := by decide +kernel
theorem d_S_entryStands_93 : decode b_S_entryStands 93 = .ok (.iload_n 3, 1) := by decide +kernel
theorem d_S_entryStands_94 : decode b_S_entryStands 94 = .ok (.iload_n 2, 1) := by decide +kernel
theorem d_S_entryStands_95 : decode b_S_entryStands 95 = .ok (.if_icmp .ne 18, 3) := by decide +kernel
theorem d_S_entryStands_98 : decode b_S_entryStands 98 = .ok (.aload_n 0, 1) := by decide +kernel
theorem d_S_entryStands_99 : decode b_S_entryStands 99 = .ok (.getfield 19, 3) := by decide +kernel
theorem d_S_entryStands_102 : decode b_S_entryStands 102 = .ok (.invokevirtual 226, 3) := by decide +kernel
theorem d_S_entryStands_105 : decode b_S_entryStands 105 = .ok (.iconst 2, 1) := by decide +kernel
theorem d_S_entryStands_106 : decode b_S_entryStands 106 = .ok (.if_icmp .ne 7, 3) := by decide +kernel
theorem d_S_entryStands_109 : decode b_S_entryStands 109 = .ok (.iconst 1, 1) := by decide +kernel
theorem d_S_entryStands_110 : decode b_S_entryStands 110 = .ok (.goto 4, 3) := by decide +kernel
theorem d_S_entryStands_113 : decode b_S_entryStands 113 = .ok (.iconst 0, 1) := by decide +kernel
theorem d_S_entryStands_114 : decode b_S_entryStands 114 = .ok (.ireturn, 1) := by decide +kernel
theorem d_S_entryStands_115 : decode b_S_entryStands 115 = .ok (.aload_n 0, 1) := by decide +kernel
theorem d_S_entryStands_116 : decode b_S_entryStands 116 = .ok (.getfield 19, 3) := by decide +kernel
theorem d_S_entryStands_119 : decode b_S_entryStands 119 = .ok (.invokevirtual 223, 3) := by decide +kernel
theorem d_S_entryStands_122 : decode b_S_entryStands 122 = .ok (.ifCond .ne 24, 3) := by decide +kernel
theorem d_S_entryStands_125 : decode b_S_entryStands 125 = .ok (.aload_n 0, 1) := by decide +kernel
theorem d_S_entryStands_126 : decode b_S_entryStands 126 = .ok (.getfield 19, 3) := by decide +kernel
theorem d_S_entryStands_129 : decode b_S_entryStands 129 = .ok (.invokevirtual 229, 3) := by decide +kernel
theorem d_S_entryStands_132 : decode b_S_entryStands 132 = .ok (.ifCond .ne 14, 3) := by decide +kernel
theorem d_S_entryStands_135 : decode b_S_entryStands 135 = .ok (.aload_n 0, 1) := by decide +kernel
theorem d_S_entryStands_136 : decode b_S_entryStands 136 = .ok (.getfield 15, 3) := by decide +kernel
theorem d_S_entryStands_139 : decode b_S_entryStands 139 = .ok (.iload_n 3, 1) := by decide +kernel
theorem d_S_entryStands_140 : decode b_S_entryStands 140 = .ok (.invokevirtual 137, 3) := by decide +kernel
theorem d_S_entryStands_143 : decode b_S_entryStands 143 = .ok (.ifCond .ne 5, 3) := by decide +kernel
theorem d_S_entryStands_146 : decode b_S_entryStands 146 = .ok (.iconst 0, 1) := by decide +kernel
theorem d_S_entryStands_147 : decode b_S_entryStands 147 = .ok (.ireturn, 1) := by decide +kernel
theorem d_S_entryStands_148 : decode b_S_entryStands 148 = .ok (.aload_n 0, 1) := by decide +kernel
theorem d_S_entryStands_149 : decode b_S_entryStands 149 = .ok (.getfield 15, 3) := by decide +kernel
theorem d_S_entryStands_152 : decode b_S_entryStands 152 = .ok (.iload_n 3, 1) := by decide +kernel
theorem d_S_entryStands_153 : decode b_S_entryStands 153 = .ok (.invokevirtual 140, 3) := by decide +kernel
theorem d_S_entryStands_156 : decode b_S_entryStands 156 = .ok (.istore 4, 2) := by decide +kernel
theorem d_S_entryStands_158 : decode b_S_entryStands 158 = .ok (.iload 4, 2) := by decide +kernel
theorem d_S_entryStands_160 : decode b_S_entryStands 160 = .ok (.sipush 16384, 3) := by decide +kernel
theorem d_S_entryStands_163 : decode b_S_entryStands 163 = .ok (.if_icmp .ne 14, 3) := by decide +kernel
theorem d_S_entryStands_166 : decode b_S_entryStands 166 = .ok (.aload_n 0, 1) := by decide +kernel
theorem d_S_entryStands_167 : decode b_S_entryStands 167 = .ok (.getfield 19, 3) := by decide +kernel
theorem d_S_entryStands_170 : decode b_S_entryStands 170 = .ok (.invokevirtual 226, 3) := by decide +kernel
theorem d_S_entryStands_173 : decode b_S_entryStands 173 = .ok (.iconst 2, 1) := by decide +kernel
theorem d_S_entryStands_174 : decode b_S_entryStands 174 = .ok (.if_icmp .eq 21, 3) := by decide +kernel
theorem d_S_entryStands_177 : decode b_S_entryStands 177 = .ok (.iload 4, 2) := by decide +kernel
theorem d_S_entryStands_179 : decode b_S_entryStands 179 = .ok (.ldc 232, 2) := by decide +kernel
theorem d_S_entryStands_181 : decode b_S_entryStands 181 = .ok (.if_icmp .ne 18, 3) := by decide +kernel
theorem d_S_entryStands_184 : decode b_S_entryStands 184 = .ok (.aload_n 0, 1) := by decide +kernel
theorem d_S_entryStands_185 : decode b_S_entryStands 185 = .ok (.getfield 19, 3) := by decide +kernel
theorem d_S_entryStands_188 : decode b_S_entryStands 188 = .ok (.invokevirtual 226, 3) := by decide +kernel
theorem d_S_entryStands_191 : decode b_S_entryStands 191 = .ok (.iconst 1, 1) := by decide +kernel
theorem d_S_entryStands_192 : decode b_S_entryStands 192 = .ok (.if_icmp .ne 7, 3) := by decide +kernel
theorem d_S_entryStands_195 : decode b_S_entryStands 195 = .ok (.iconst 1, 1) := by decide +kernel
theorem d_S_entryStands_196 : decode b_S_entryStands 196 = .ok (.goto 4, 3) := by decide +kernel
theorem d_S_entryStands_199 : decode b_S_entryStands 199 = .ok (.iconst 0, 1) := by decide +kernel
theorem d_S_entryStands_200 : decode b_S_entryStands 200 = .ok (.ireturn, 1) := by decide +kernel
theorem d_S_entriesStand_0 : decode b_S_entriesStand 0 = .ok (.aload_n 0, 1) := by decide +kernel
theorem d_S_entriesStand_1 : decode b_S_entriesStand 1 = .ok (.getfield 15, 3) := by decide +kernel
theorem d_S_entriesStand_4 : decode b_S_entriesStand 4 = .ok (.iload_n 1, 1) := by decide +kernel
theorem d_S_entriesStand_5 : decode b_S_entriesStand 5 = .ok (.invokevirtual 156, 3) := by decide +kernel
theorem d_S_entriesStand_8 : decode b_S_entriesStand 8 = .ok (.lstore_n 3, 1) := by decide +kernel
theorem d_S_entriesStand_9 : decode b_S_entriesStand 9 = .ok (.lload_n 3, 1) := by decide +kernel
theorem d_S_entriesStand_10 : decode b_S_entriesStand 10 = .ok (.lconst 0, 1) := by decide +kernel
theorem d_S_entriesStand_11 : decode b_S_entriesStand 11 = .ok (.lcmp, 1) := by decide +kernel
theorem d_S_entriesStand_12 : decode b_S_entriesStand 12 = .ok (.ifCond .eq 13, 3) := by decide +kernel
theorem d_S_entriesStand_15 : decode b_S_entriesStand 15 = .ok (.lload_n 3, 1) := by decide +kernel
theorem d_S_entriesStand_16 : decode b_S_entriesStand 16 = .ok (.ldc2_w 103, 3) := by decide +kernel
theorem d_S_entriesStand_19 : decode b_S_entriesStand 19 = .ok (.lrem, 1) := by decide +kernel
theorem d_S_entriesStand_20 : decode b_S_entriesStand 20 = .ok (.lconst 0, 1) := by decide +kernel
theorem d_S_entriesStand_21 : decode b_S_entriesStand 21 = .ok (.lcmp, 1) := by decide +kernel
theorem d_S_entriesStand_22 : decode b_S_entriesStand 22 = .ok (.ifCond .eq 5, 3) := by decide +kernel
theorem d_S_entriesStand_25 : decode b_S_entriesStand 25 = .ok (.iconst 0, 1) := by decide +kernel
theorem d_S_entriesStand_26 : decode b_S_entriesStand 26 = .ok (.ireturn, 1) := by decide +kernel
theorem d_S_entriesStand_27 : decode b_S_entriesStand 27 = .ok (.aload_n 0, 1) := by decide +kernel
theorem d_S_entriesStand_28 : decode b_S_entriesStand 28 = .ok (.getfield 19, 3) := by decide +kernel
theorem d_S_entriesStand_31 : decode b_S_entriesStand 31 = .ok (.iload_n 1, 1) := by decide +kernel
theorem d_S_entriesStand_32 : decode b_S_entriesStand 32 = .ok (.invokevirtual 189, 3) := by decide +kernel
theorem d_S_entriesStand_35 : decode b_S_entriesStand 35 = .ok (.iconst 0, 1) := by decide +kernel
theorem d_S_entriesStand_36 : decode b_S_entriesStand 36 = .ok (.istore 5, 2) := by decide +kernel
theorem d_S_entriesStand_38 : decode b_S_entriesStand 38 = .ok (.iload 5, 2) := by decide +kernel
theorem d_S_entriesStand_40 : decode b_S_entriesStand 40 = .ok (.ldc 195, 2) := by decide +kernel
theorem d_S_entriesStand_42 : decode b_S_entriesStand 42 = .ok (.if_icmp .ge 59, 3) := by decide +kernel
theorem d_S_entriesStand_45 : decode b_S_entriesStand 45 = .ok (.aload_n 0, 1) := by decide +kernel
theorem d_S_entriesStand_46 : decode b_S_entriesStand 46 = .ok (.getfield 19, 3) := by decide +kernel
theorem d_S_entriesStand_49 : decode b_S_entriesStand 49 = .ok (.invokevirtual 196, 3) := by decide +kernel
theorem d_S_entriesStand_52 : decode b_S_entriesStand 52 = .ok (.ifCond .eq 49, 3) := by decide +kernel
theorem d_S_entriesStand_55 : decode b_S_entriesStand 55 = .ok (.aload_n 0, 1) := by decide +kernel
theorem d_S_entriesStand_56 : decode b_S_entriesStand 56 = .ok (.getfield 19, 3) := by decide +kernel
theorem d_S_entriesStand_59 : decode b_S_entriesStand 59 = .ok (.invokevirtual 199, 3) := by decide +kernel
theorem d_S_entriesStand_62 : decode b_S_entriesStand 62 = .ok (.ifCond .ne 5, 3) := by decide +kernel
theorem d_S_entriesStand_65 : decode b_S_entriesStand 65 = .ok (.iconst 0, 1) := by decide +kernel
theorem d_S_entriesStand_66 : decode b_S_entriesStand 66 = .ok (.ireturn, 1) := by decide +kernel
theorem d_S_entriesStand_67 : decode b_S_entriesStand 67 = .ok (.aload_n 0, 1) := by decide +kernel
theorem d_S_entriesStand_68 : decode b_S_entriesStand 68 = .ok (.getfield 19, 3) := by decide +kernel
theorem d_S_entriesStand_71 : decode b_S_entriesStand 71 = .ok (.invokevirtual 202, 3) := by decide +kernel
theorem d_S_entriesStand_74 : decode b_S_entriesStand 74 = .ok (.ifCond .ne 14, 3) := by decide +kernel
theorem d_S_entriesStand_77 : decode b_S_entriesStand 77 = .ok (.aload_n 0, 1) := by decide +kernel
theorem d_S_entriesStand_78 : decode b_S_entriesStand 78 = .ok (.iload_n 1, 1) := by decide +kernel
theorem d_S_entriesStand_79 : decode b_S_entriesStand 79 = .ok (.iload_n 2, 1) := by decide +kernel
theorem d_S_entriesStand_80 : decode b_S_entriesStand 80 = .ok (.invokevirtual 205, 3) := by decide +kernel
theorem d_S_entriesStand_83 : decode b_S_entriesStand 83 = .ok (.ifCond .ne 5, 3) := by decide +kernel
theorem d_S_entriesStand_86 : decode b_S_entriesStand 86 = .ok (.iconst 0, 1) := by decide +kernel
theorem d_S_entriesStand_87 : decode b_S_entriesStand 87 = .ok (.ireturn, 1) := by decide +kernel
theorem d_S_entriesStand_88 : decode b_S_entriesStand 88 = .ok (.aload_n 0, 1) := by decide +kernel
theorem d_S_entriesStand_89 : decode b_S_entriesStand 89 = .ok (.getfield 19, 3) := by decide +kernel
theorem d_S_entriesStand_92 : decode b_S_entriesStand 92 = .ok (.invokevirtual 208, 3) := by decide +kernel
theorem d_S_entriesStand_95 : decode b_S_entriesStand 95 = .ok (.iinc 5 1, 3) := by decide +kernel
theorem d_S_entriesStand_98 : decode b_S_entriesStand 98 = .ok (.goto (-60), 3) := by decide +kernel
theorem d_S_entriesStand_101 : decode b_S_entriesStand 101 = .ok (.aload_n 0, 1) := by decide +kernel
theorem d_S_entriesStand_102 : decode b_S_entriesStand 102 = .ok (.getfield 19, 3) := by decide +kernel
theorem d_S_entriesStand_105 : decode b_S_entriesStand 105 = .ok (.invokevirtual 211, 3) := by decide +kernel
theorem d_S_entriesStand_108 : decode b_S_entriesStand 108 = .ok (.iconst 2, 1) := by decide +kernel
theorem d_S_entriesStand_109 : decode b_S_entriesStand 109 = .ok (.if_icmp .lt 7, 3) := by decide +kernel
theorem d_S_entriesStand_112 : decode b_S_entriesStand 112 = .ok (.iconst 1, 1) := by decide +kernel
theorem d_S_entriesStand_113 : decode b_S_entriesStand 113 = .ok (.goto 4, 3) := by decide +kernel
theorem d_S_entriesStand_116 : decode b_S_entriesStand 116 = .ok (.iconst 0, 1) := by decide +kernel
theorem d_S_entriesStand_117 : decode b_S_entriesStand 117 = .ok (.ireturn, 1) := by decide +kernel
theorem d_J_fill_0 : decode b_J_fill 0 = .ok (.iconst 0, 1) := by decide +kernel
theorem d_J_fill_1 : decode b_J_fill 1 = .ok (.istore_n 2, 1) := by decide +kernel
theorem d_J_fill_2 : decode b_J_fill 2 = .ok (.aload_n 0, 1) := by decide +kernel
theorem d_J_fill_3 : decode b_J_fill 3 = .ok (.arraylength, 1) := by decide +kernel
theorem d_J_fill_4 : decode b_J_fill 4 = .ok (.istore_n 3, 1) := by decide +kernel
theorem d_J_fill_5 : decode b_J_fill 5 = .ok (.iload_n 2, 1) := by decide +kernel
theorem d_J_fill_6 : decode b_J_fill 6 = .ok (.iload_n 3, 1) := by decide +kernel
theorem d_J_fill_7 : decode b_J_fill 7 = .ok (.if_icmp .ge 13, 3) := by decide +kernel
theorem d_J_fill_10 : decode b_J_fill 10 = .ok (.aload_n 0, 1) := by decide +kernel
theorem d_J_fill_11 : decode b_J_fill 11 = .ok (.iload_n 2, 1) := by decide +kernel
theorem d_J_fill_12 : decode b_J_fill 12 = .ok (.iload_n 1, 1) := by decide +kernel
theorem d_J_fill_13 : decode b_J_fill 13 = .ok (.iastore, 1) := by decide +kernel
theorem d_J_fill_14 : decode b_J_fill 14 = .ok (.iinc 2 1, 3) := by decide +kernel
theorem d_J_fill_17 : decode b_J_fill 17 = .ok (.goto (-12), 3) := by decide +kernel
theorem d_J_fill_20 : decode b_J_fill 20 = .ok (.return_, 1) := by decide +kernel
