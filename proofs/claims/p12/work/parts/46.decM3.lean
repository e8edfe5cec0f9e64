theorem d_M_badEntries_0 : decode b_M_badEntries 0 = .ok (.aload_n 0, 1) := by decide +kernel
theorem d_M_badEntries_1 : decode b_M_badEntries 1 = .ok (.iload_n 1, 1) := by decide +kernel
theorem d_M_badEntries_2 : decode b_M_badEntries 2 = .ok (.invokevirtual 123, 3) := by decide +kernel
theorem d_M_badEntries_5 : decode b_M_badEntries 5 = .ok (.l2i, 1) := by decide +kernel
theorem d_M_badEntries_6 : decode b_M_badEntries 6 = .ok (.istore_n 2, 1) := by decide +kernel
theorem d_M_badEntries_7 : decode b_M_badEntries 7 = .ok (.iload_n 2, 1) := by decide +kernel
theorem d_M_badEntries_8 : decode b_M_badEntries 8 = .ok (.ifCond .eq 11, 3) := by decide +kernel
theorem d_M_badEntries_11 : decode b_M_badEntries 11 = .ok (.iload_n 2, 1) := by decide +kernel
theorem d_M_badEntries_12 : decode b_M_badEntries 12 = .ok (.sipush 1024, 3) := by decide +kernel
theorem d_M_badEntries_15 : decode b_M_badEntries 15 = .ok (.irem, 1) := by decide +kernel
theorem d_M_badEntries_16 : decode b_M_badEntries 16 = .ok (.ifCond .eq 5, 3) := by decide +kernel
theorem d_M_badEntries_19 : decode b_M_badEntries 19 = .ok (.iconst 1, 1) := by decide +kernel
theorem d_M_badEntries_20 : decode b_M_badEntries 20 = .ok (.ireturn, 1) := by decide +kernel
theorem d_M_badEntries_21 : decode b_M_badEntries 21 = .ok (.iconst 0, 1) := by decide +kernel
theorem d_M_badEntries_22 : decode b_M_badEntries 22 = .ok (.istore_n 3, 1) := by decide +kernel
theorem d_M_badEntries_23 : decode b_M_badEntries 23 = .ok (.iconst 0, 1) := by decide +kernel
theorem d_M_badEntries_24 : decode b_M_badEntries 24 = .ok (.istore 4, 2) := by decide +kernel
theorem d_M_badEntries_26 : decode b_M_badEntries 26 = .ok (.iload 4, 2) := by decide +kernel
theorem d_M_badEntries_28 : decode b_M_badEntries 28 = .ok (.iload_n 2, 1) := by decide +kernel
theorem d_M_badEntries_29 : decode b_M_badEntries 29 = .ok (.sipush 1024, 3) := by decide +kernel
theorem d_M_badEntries_32 : decode b_M_badEntries 32 = .ok (.idiv, 1) := by decide +kernel
theorem d_M_badEntries_33 : decode b_M_badEntries 33 = .ok (.if_icmp .ge 87, 3) := by decide +kernel
theorem d_M_badEntries_36 : decode b_M_badEntries 36 = .ok (.sipush 1024, 3) := by decide +kernel
theorem d_M_badEntries_39 : decode b_M_badEntries 39 = .ok (.aload_n 0, 1) := by decide +kernel
theorem d_M_badEntries_40 : decode b_M_badEntries 40 = .ok (.iload_n 1, 1) := by decide +kernel
theorem d_M_badEntries_41 : decode b_M_badEntries 41 = .ok (.iload 4, 2) := by decide +kernel
theorem d_M_badEntries_43 : decode b_M_badEntries 43 = .ok (.invokevirtual 134, 3) := by decide +kernel
theorem d_M_badEntries_46 : decode b_M_badEntries 46 = .ok (.l2i, 1) := by decide +kernel
theorem d_M_badEntries_47 : decode b_M_badEntries 47 = .ok (.imul, 1) := by decide +kernel
theorem d_M_badEntries_48 : decode b_M_badEntries 48 = .ok (.istore 5, 2) := by decide +kernel
theorem d_M_badEntries_50 : decode b_M_badEntries 50 = .ok (.iconst 0, 1) := by decide +kernel
theorem d_M_badEntries_51 : decode b_M_badEntries 51 = .ok (.istore 6, 2) := by decide +kernel
theorem d_M_badEntries_53 : decode b_M_badEntries 53 = .ok (.iload 6, 2) := by decide +kernel
theorem d_M_badEntries_55 : decode b_M_badEntries 55 = .ok (.sipush 1024, 3) := by decide +kernel
theorem d_M_badEntries_58 : decode b_M_badEntries 58 = .ok (.if_icmp .ge 56, 3) := by decide +kernel
theorem d_M_badEntries_61 : decode b_M_badEntries 61 = .ok (.sipush 1024, 3) := by decide +kernel
theorem d_M_badEntries_64 : decode b_M_badEntries 64 = .ok (.iload 6, 2) := by decide +kernel
theorem d_M_badEntries_66 : decode b_M_badEntries 66 = .ok (.isub, 1) := by decide +kernel
theorem d_M_badEntries_67 : decode b_M_badEntries 67 = .ok (.bipush 12, 2) := by decide +kernel
theorem d_M_badEntries_69 : decode b_M_badEntries 69 = .ok (.if_icmp .lt 23, 3) := by decide +kernel
theorem d_M_badEntries_72 : decode b_M_badEntries 72 = .ok (.aload_n 0, 1) := by decide +kernel
theorem d_M_badEntries_73 : decode b_M_badEntries 73 = .ok (.iload_n 1, 1) := by decide +kernel
theorem d_M_badEntries_74 : decode b_M_badEntries 74 = .ok (.iload 5, 2) := by decide +kernel
theorem d_M_badEntries_76 : decode b_M_badEntries 76 = .ok (.iload 6, 2) := by decide +kernel
theorem d_M_badEntries_78 : decode b_M_badEntries 78 = .ok (.iadd, 1) := by decide +kernel
theorem d_M_badEntries_79 : decode b_M_badEntries 79 = .ok (.iload_n 3, 1) := by decide +kernel
theorem d_M_badEntries_80 : decode b_M_badEntries 80 = .ok (.sipush 1024, 3) := by decide +kernel
theorem d_M_badEntries_83 : decode b_M_badEntries 83 = .ok (.iload 6, 2) := by decide +kernel
theorem d_M_badEntries_85 : decode b_M_badEntries 85 = .ok (.isub, 1) := by decide +kernel
theorem d_M_badEntries_86 : decode b_M_badEntries 86 = .ok (.invokevirtual 153, 3) := by decide +kernel
theorem d_M_badEntries_89 : decode b_M_badEntries 89 = .ok (.ifCond .ne 5, 3) := by decide +kernel
theorem d_M_badEntries_92 : decode b_M_badEntries 92 = .ok (.iconst 1, 1) := by decide +kernel
theorem d_M_badEntries_93 : decode b_M_badEntries 93 = .ok (.ireturn, 1) := by decide +kernel
theorem d_M_badEntries_94 : decode b_M_badEntries 94 = .ok (.iload 6, 2) := by decide +kernel
theorem d_M_badEntries_96 : decode b_M_badEntries 96 = .ok (.aload_n 0, 1) := by decide +kernel
theorem d_M_badEntries_97 : decode b_M_badEntries 97 = .ok (.iload 5, 2) := by decide +kernel
theorem d_M_badEntries_99 : decode b_M_badEntries 99 = .ok (.iload 6, 2) := by decide +kernel
theorem d_M_badEntries_101 : decode b_M_badEntries 101 = .ok (.iadd, 1) := by decide +kernel
theorem d_M_badEntries_102 : decode b_M_badEntries 102 = .ok (.invokevirtual 140, 3) := by decide +kernel
theorem d_M_badEntries_105 : decode b_M_badEntries 105 = .ok (.iadd, 1) := by decide +kernel
theorem d_M_badEntries_106 : decode b_M_badEntries 106 = .ok (.istore 6, 2) := by decide +kernel
theorem d_M_badEntries_108 : decode b_M_badEntries 108 = .ok (.iinc 3 1, 3) := by decide +kernel
theorem d_M_badEntries_111 : decode b_M_badEntries 111 = .ok (.goto (-58), 3) := by decide +kernel
theorem d_M_badEntries_114 : decode b_M_badEntries 114 = .ok (.iinc 4 1, 3) := by decide +kernel
theorem d_M_badEntries_117 : decode b_M_badEntries 117 = .ok (.goto (-91), 3) := by decide +kernel
theorem d_M_badEntries_120 : decode b_M_badEntries 120 = .ok (.iload_n 3, 1) := by decide +kernel
theorem d_M_badEntries_121 : decode b_M_badEntries 121 = .ok (.iconst 2, 1) := by decide +kernel
theorem d_M_badEntries_122 : decode b_M_badEntries 122 = .ok (.if_icmp .ge 7, 3) := by decide +kernel
theorem d_M_badEntries_125 : decode b_M_badEntries 125 = .ok (.iconst 1, 1) := by decide +kernel
theorem d_M_badEntries_126 : decode b_M_badEntries 126 = .ok (.goto 4, 3) := by decide +kernel
theorem d_M_badEntries_129 : decode b_M_badEntries 129 = .ok (.iconst 0, 1) := by decide +kernel
theorem d_M_badEntries_130 : decode b_M_badEntries 130 = .ok (.ireturn, 1) := by decide +kernel
theorem d_M_finds_0 : decode b_M_finds 0 = .ok (.aload_n 0, 1) := by decide +kernel
theorem d_M_finds_1 : decode b_M_finds 1 = .ok (.iload_n 1, 1) := by decide +kernel
theorem d_M_finds_2 : decode b_M_finds 2 = .ok (.invokevirtual 123, 3) := by decide +kernel
theorem d_M_finds_5 : decode b_M_finds 5 = .ok (.l2i, 1) := by decide +kernel
theorem d_M_finds_6 : decode b_M_finds 6 = .ok (.istore_n 3, 1) := by decide +kernel
theorem d_M_finds_7 : decode b_M_finds 7 = .ok (.bipush (-2), 2) := by decide +kernel
theorem d_M_finds_9 : decode b_M_finds 9 = .ok (.istore 4, 2) := by decide +kernel
theorem d_M_finds_11 : decode b_M_finds 11 = .ok (.iconst 0, 1) := by decide +kernel
theorem d_M_finds_12 : decode b_M_finds 12 = .ok (.istore 5, 2) := by decide +kernel
theorem d_M_finds_14 : decode b_M_finds 14 = .ok (.iload 5, 2) := by decide +kernel
theorem d_M_finds_16 : decode b_M_finds 16 = .ok (.iload_n 3, 1) := by decide +kernel
theorem d_M_finds_17 : decode b_M_finds 17 = .ok (.sipush 1024, 3) := by decide +kernel
theorem d_M_finds_20 : decode b_M_finds 20 = .ok (.idiv, 1) := by decide +kernel
theorem d_M_finds_21 : decode b_M_finds 21 = .ok (.if_icmp .ge 93, 3) := by decide +kernel
theorem d_M_finds_24 : decode b_M_finds 24 = .ok (.sipush 1024, 3) := by decide +kernel
theorem d_M_finds_27 : decode b_M_finds 27 = .ok (.aload_n 0, 1) := by decide +kernel
theorem d_M_finds_28 : decode b_M_finds 28 = .ok (.iload_n 1, 1) := by decide +kernel
theorem d_M_finds_29 : decode b_M_finds 29 = .ok (.iload 5, 2) := by decide +kernel
theorem d_M_finds_31 : decode b_M_finds 31 = .ok (.invokevirtual 134, 3) := by decide +kernel
theorem d_M_finds_34 : decode b_M_finds 34 = .ok (.l2i, 1) := by decide +kernel
theorem d_M_finds_35 : decode b_M_finds 35 = .ok (.imul, 1) := by decide +kernel
theorem d_M_finds_36 : decode b_M_finds 36 = .ok (.istore 6, 2) := by decide +kernel
theorem d_M_finds_38 : decode b_M_finds 38 = .ok (.iconst 0, 1) := by decide +kernel
theorem d_M_finds_39 : decode b_M_finds 39 = .ok (.istore 7, 2) := by decide +kernel
theorem d_M_finds_41 : decode b_M_finds 41 = .ok (.iload 7, 2) := by decide +kernel
theorem d_M_finds_43 : decode b_M_finds 43 = .ok (.sipush 1024, 3) := by decide +kernel
theorem d_M_finds_46 : decode b_M_finds 46 = .ok (.if_icmp .ge 62, 3) := by decide +kernel
theorem d_M_finds_49 : decode b_M_finds 49 = .ok (.iload 4, 2) := by decide +kernel
theorem d_M_finds_51 : decode b_M_finds 51 = .ok (.ifCond .lt 20, 3) := by decide +kernel
theorem d_M_finds_54 : decode b_M_finds 54 = .ok (.aload_n 0, 1) := by decide +kernel
theorem d_M_finds_55 : decode b_M_finds 55 = .ok (.iload 6, 2) := by decide +kernel
theorem d_M_finds_57 : decode b_M_finds 57 = .ok (.iload 7, 2) := by decide +kernel
theorem d_M_finds_59 : decode b_M_finds 59 = .ok (.iadd, 1) := by decide +kernel
theorem d_M_finds_60 : decode b_M_finds 60 = .ok (.invokevirtual 79, 3) := by decide +kernel
theorem d_M_finds_63 : decode b_M_finds 63 = .ok (.lconst 0, 1) := by decide +kernel
theorem d_M_finds_64 : decode b_M_finds 64 = .ok (.lcmp, 1) := by decide +kernel
theorem d_M_finds_65 : decode b_M_finds 65 = .ok (.ifCond .ne 6, 3) := by decide +kernel
theorem d_M_finds_68 : decode b_M_finds 68 = .ok (.goto 23, 3) := by decide +kernel
theorem d_M_finds_71 : decode b_M_finds 71 = .ok (.iload 4, 2) := by decide +kernel
theorem d_M_finds_73 : decode b_M_finds 73 = .ok (.iload_n 2, 1) := by decide +kernel
theorem d_M_finds_74 : decode b_M_finds 74 = .ok (.if_icmp .ne 14, 3) := by decide +kernel
theorem d_M_finds_77 : decode b_M_finds 77 = .ok (.aload_n 0, 1) := by decide +kernel
theorem d_M_finds_78 : decode b_M_finds 78 = .ok (.iload 6, 2) := by decide +kernel
theorem d_M_finds_80 : decode b_M_finds 80 = .ok (.iload 7, 2) := by decide +kernel
theorem d_M_finds_82 : decode b_M_finds 82 = .ok (.iadd, 1) := by decide +kernel
theorem d_M_finds_83 : decode b_M_finds 83 = .ok (.putfield 157, 3) := by decide +kernel
theorem d_M_finds_86 : decode b_M_finds 86 = .ok (.iconst 1, 1) := by decide +kernel
theorem d_M_finds_87 : decode b_M_finds 87 = .ok (.ireturn, 1) := by decide +kernel
theorem d_M_finds_88 : decode b_M_finds 88 = .ok (.iinc 4 1, 3) := by decide +kernel
theorem d_M_finds_91 : decode b_M_finds 91 = .ok (.iload 7, 2) := by decide +kernel
theorem d_M_finds_93 : decode b_M_finds 93 = .ok (.aload_n 0, 1) := by decide +kernel
theorem d_M_finds_94 : decode b_M_finds 94 = .ok (.iload 6, 2) := by decide +kernel
theorem d_M_finds_96 : decode b_M_finds 96 = .ok (.iload 7, 2) := by decide +kernel
theorem d_M_finds_98 : decode b_M_finds 98 = .ok (.iadd, 1) := by decide +kernel
theorem d_M_finds_99 : decode b_M_finds 99 = .ok (.invokevirtual 140, 3) := by decide +kernel
theorem d_M_finds_102 : decode b_M_finds 102 = .ok (.iadd, 1) := by decide +kernel
theorem d_M_finds_103 : decode b_M_finds 103 = .ok (.istore 7, 2) := by decide +kernel
theorem d_M_finds_105 : decode b_M_finds 105 = .ok (.goto (-64), 3) := by decide +kernel
theorem d_M_finds_108 : decode b_M_finds 108 = .ok (.iinc 5 1, 3) := by decide +kernel
theorem d_M_finds_111 : decode b_M_finds 111 = .ok (.goto (-97), 3) := by decide +kernel
theorem d_M_finds_114 : decode b_M_finds 114 = .ok (.iconst 0, 1) := by decide +kernel
theorem d_M_finds_115 : decode b_M_finds 115 = .ok (.ireturn, 1) := by decide +kernel
theorem d_M_comes_0 : decode b_M_comes 0 = .ok (.aload_n 0, 1) := by decide +kernel
theorem d_M_comes_1 : decode b_M_comes 1 = .ok (.getfield 25, 3) := by decide +kernel
theorem d_M_comes_4 : decode b_M_comes 4 = .ok (.aload_n 0, 1) := by decide +kernel
theorem d_M_comes_5 : decode b_M_comes 5 = .ok (.getfield 160, 3) := by decide +kernel
theorem d_M_comes_8 : decode b_M_comes 8 = .ok (.iload_n 1, 1) := by decide +kernel
theorem d_M_comes_9 : decode b_M_comes 9 = .ok (.iastore, 1) := by decide +kernel
theorem d_M_comes_10 : decode b_M_comes 10 = .ok (.aload_n 0, 1) := by decide +kernel
theorem d_M_comes_11 : decode b_M_comes 11 = .ok (.dup, 1) := by decide +kernel
theorem d_M_comes_12 : decode b_M_comes 12 = .ok (.getfield 160, 3) := by decide +kernel
theorem d_M_comes_15 : decode b_M_comes 15 = .ok (.iconst 1, 1) := by decide +kernel
theorem d_M_comes_16 : decode b_M_comes 16 = .ok (.iadd, 1) := by decide +kernel
theorem d_M_comes_17 : decode b_M_comes 17 = .ok (.putfield 160, 3) := by decide +kernel
theorem d_M_comes_20 : decode b_M_comes 20 = .ok (.aload_n 0, 1) := by decide +kernel
theorem d_M_comes_21 : decode b_M_comes 21 = .ok (.getfield 34, 3) := by decide +kernel
theorem d_M_comes_24 : decode b_M_comes 24 = .ok (.iload_n 1, 1) := by decide +kernel
theorem d_M_comes_25 : decode b_M_comes 25 = .ok (.iconst 1, 1) := by decide +kernel
theorem d_M_comes_26 : decode b_M_comes 26 = .ok (.bastore, 1) := by decide +kernel
theorem d_M_comes_27 : decode b_M_comes 27 = .ok (.aload_n 0, 1) := by decide +kernel
theorem d_M_comes_28 : decode b_M_comes 28 = .ok (.getfield 28, 3) := by decide +kernel
theorem d_M_comes_31 : decode b_M_comes 31 = .ok (.iload_n 1, 1) := by decide +kernel
theorem d_M_comes_32 : decode b_M_comes 32 = .ok (.iload_n 2, 1) := by decide +kernel
theorem d_M_comes_33 : decode b_M_comes 33 = .ok (.iastore, 1) := by decide +kernel
theorem d_M_comes_34 : decode b_M_comes 34 = .ok (.aload_n 0, 1) := by decide +kernel
theorem d_M_comes_35 : decode b_M_comes 35 = .ok (.getfield 31, 3) := by decide +kernel
theorem d_M_comes_38 : decode b_M_comes 38 = .ok (.iload_n 1, 1) := by decide +kernel
theorem d_M_comes_39 : decode b_M_comes 39 = .ok (.iconst 0, 1) := by decide +kernel
theorem d_M_comes_40 : decode b_M_comes 40 = .ok (.iastore, 1) := by decide +kernel
theorem d_M_comes_41 : decode b_M_comes 41 = .ok (.iload_n 1, 1) := by decide +kernel
theorem d_M_comes_42 : decode b_M_comes 42 = .ok (.iconst 2, 1) := by decide +kernel
theorem d_M_comes_43 : decode b_M_comes 43 = .ok (.if_icmp .eq 24, 3) := by decide +kernel
theorem d_M_comes_46 : decode b_M_comes 46 = .ok (.aload_n 0, 1) := by decide +kernel
theorem d_M_comes_47 : decode b_M_comes 47 = .ok (.iload_n 1, 1) := by decide +kernel
theorem d_M_comes_48 : decode b_M_comes 48 = .ok (.invokevirtual 146, 3) := by decide +kernel
theorem d_M_comes_51 : decode b_M_comes 51 = .ok (.sipush 16384, 3) := by decide +kernel
theorem d_M_comes_54 : decode b_M_comes 54 = .ok (.if_icmp .ne 13, 3) := by decide +kernel
theorem d_M_comes_57 : decode b_M_comes 57 = .ok (.aload_n 0, 1) := by decide +kernel
theorem d_M_comes_58 : decode b_M_comes 58 = .ok (.getfield 31, 3) := by decide +kernel
theorem d_M_comes_61 : decode b_M_comes 61 = .ok (.iload_n 2, 1) := by decide +kernel
theorem d_M_comes_62 : decode b_M_comes 62 = .ok (.dup2, 1) := by decide +kernel
theorem d_M_comes_63 : decode b_M_comes 63 = .ok (.iaload, 1) := by decide +kernel
theorem d_M_comes_64 : decode b_M_comes 64 = .ok (.iconst 1, 1) := by decide +kernel
theorem d_M_comes_65 : decode b_M_comes 65 = .ok (.iadd, 1) := by decide +kernel
theorem d_M_comes_66 : decode b_M_comes 66 = .ok (.iastore, 1) := by decide +kernel
theorem d_M_comes_67 : decode b_M_comes 67 = .ok (.return_, 1) := by decide +kernel
theorem d_M_tree_0 : decode b_M_tree 0 = .ok (.aload_n 0, 1) := by decide +kernel
theorem d_M_tree_1 : decode b_M_tree 1 = .ok (.iconst 0, 1) := by decide +kernel
theorem d_M_tree_2 : decode b_M_tree 2 = .ok (.putfield 160, 3) := by decide +kernel
theorem d_M_tree_5 : decode b_M_tree 5 = .ok (.iconst 0, 1) := by decide +kernel
theorem d_M_tree_6 : decode b_M_tree 6 = .ok (.istore_n 1, 1) := by decide +kernel
theorem d_M_tree_7 : decode b_M_tree 7 = .ok (.iload_n 1, 1) := by decide +kernel
theorem d_M_tree_8 : decode b_M_tree 8 = .ok (.sipush 4200, 3) := by decide +kernel
theorem d_M_tree_11 : decode b_M_tree 11 = .ok (.if_icmp .ge 16, 3) := by decide +kernel
theorem d_M_tree_14 : decode b_M_tree 14 = .ok (.aload_n 0, 1) := by decide +kernel
theorem d_M_tree_15 : decode b_M_tree 15 = .ok (.getfield 34, 3) := by decide +kernel
theorem d_M_tree_18 : decode b_M_tree 18 = .ok (.iload_n 1, 1) := by decide +kernel
theorem d_M_tree_19 : decode b_M_tree 19 = .ok (.iconst 0, 1) := by decide +kernel
theorem d_M_tree_20 : decode b_M_tree 20 = .ok (.bastore, 1) := by decide +kernel
theorem d_M_tree_21 : decode b_M_tree 21 = .ok (.iinc 1 1, 3) := by decide +kernel
theorem d_M_tree_24 : decode b_M_tree 24 = .ok (.goto (-17), 3) := by decide +kernel
theorem d_M_tree_27 : decode b_M_tree 27 = .ok (.aload_n 0, 1) := by decide +kernel
theorem d_M_tree_28 : decode b_M_tree 28 = .ok (.iconst 2, 1) := by decide +kernel
theorem d_M_tree_29 : decode b_M_tree 29 = .ok (.invokevirtual 149, 3) := by decide +kernel
theorem d_M_tree_32 : decode b_M_tree 32 = .ok (.ifCond .eq 22, 3) := by decide +kernel
theorem d_M_tree_35 : decode b_M_tree 35 = .ok (.aload_n 0, 1) := by decide +kernel
theorem d_M_tree_36 : decode b_M_tree 36 = .ok (.iconst 2, 1) := by decide +kernel
theorem d_M_tree_37 : decode b_M_tree 37 = .ok (.invokevirtual 146, 3) := by decide +kernel
theorem d_M_tree_40 : decode b_M_tree 40 = .ok (.sipush 16384, 3) := by decide +kernel
theorem d_M_tree_43 : decode b_M_tree 43 = .ok (.if_icmp .ne 11, 3) := by decide +kernel
theorem d_M_tree_46 : decode b_M_tree 46 = .ok (.aload_n 0, 1) := by decide +kernel
theorem d_M_tree_47 : decode b_M_tree 47 = .ok (.iconst 2, 1) := by decide +kernel
theorem d_M_tree_48 : decode b_M_tree 48 = .ok (.invokevirtual 163, 3) := by decide +kernel
theorem d_M_tree_51 : decode b_M_tree 51 = .ok (.ifCond .ne 5, 3) := by decide +kernel
theorem d_M_tree_54 : decode b_M_tree 54 = .ok (.iconst 4, 1) := by decide +kernel
theorem d_M_tree_55 : decode b_M_tree 55 = .ok (.ireturn, 1) := by decide +kernel
theorem d_M_tree_56 : decode b_M_tree 56 = .ok (.aload_n 0, 1) := by decide +kernel
theorem d_M_tree_57 : decode b_M_tree 57 = .ok (.iconst 2, 1) := by decide +kernel
theorem d_M_tree_58 : decode b_M_tree 58 = .ok (.iconst 2, 1) := by decide +kernel
theorem d_M_tree_59 : decode b_M_tree 59 = .ok (.invokevirtual 166, 3) := by decide +kernel
theorem d_M_tree_62 : decode b_M_tree 62 = .ok (.iconst 0, 1) := by decide +kernel
theorem d_M_tree_63 : decode b_M_tree 63 = .ok (.istore_n 1, 1) := by decide +kernel
theorem d_M_tree_64 : decode b_M_tree 64 = .ok (.iload_n 1, 1) := by decide +kernel
theorem d_M_tree_65 : decode b_M_tree 65 = .ok (.aload_n 0, 1) := by decide +kernel
theorem d_M_tree_66 : decode b_M_tree 66 = .ok (.getfield 160, 3) := by decide +kernel
theorem d_M_tree_69 : decode b_M_tree 69 = .ok (.if_icmp .ge 96, 3) := by decide +kernel
theorem d_M_tree_72 : decode b_M_tree 72 = .ok (.aload_n 0, 1) := by decide +kernel
theorem d_M_tree_73 : decode b_M_tree 73 = .ok (.getfield 25, 3) := by decide +kernel
theorem d_M_tree_76 : decode b_M_tree 76 = .ok (.iload_n 1, 1) := by decide +kernel
theorem d_M_tree_77 : decode b_M_tree 77 = .ok (.iaload, 1) := by decide +kernel
theorem d_M_tree_78 : decode b_M_tree 78 = .ok (.istore_n 2, 1) := by decide +kernel
theorem d_M_tree_79 : decode b_M_tree 79 = .ok (.aload_n 0, 1) := by decide +kernel
theorem d_M_tree_80 : decode b_M_tree 80 = .ok (.iload_n 2, 1) := by decide +kernel
theorem d_M_tree_81 : decode b_M_tree 81 = .ok (.invokevirtual 146, 3) := by decide +kernel
theorem d_M_tree_84 : decode b_M_tree 84 = .ok (.sipush 16384, 3) := by decide +kernel
theorem d_M_tree_87 : decode b_M_tree 87 = .ok (.if_icmp .eq 6, 3) := by decide +kernel
theorem d_M_tree_90 : decode b_M_tree 90 = .ok (.goto 69, 3) := by decide +kernel
theorem d_M_tree_93 : decode b_M_tree 93 = .ok (.aload_n 0, 1) := by decide +kernel
theorem d_M_tree_94 : decode b_M_tree 94 = .ok (.iload_n 2, 1) := by decide +kernel
theorem d_M_tree_95 : decode b_M_tree 95 = .ok (.invokevirtual 170, 3) := by decide +kernel
theorem d_M_tree_98 : decode b_M_tree 98 = .ok (.ifCond .eq 5, 3) := by decide +kernel
theorem d_M_tree_101 : decode b_M_tree 101 = .ok (.iconst 5, 1) := by decide +kernel
theorem d_M_tree_102 : decode b_M_tree 102 = .ok (.ireturn, 1) := by decide +kernel
theorem d_M_tree_103 : decode b_M_tree 103 = .ok (.iconst 0, 1) := by decide +kernel
theorem d_M_tree_104 : decode b_M_tree 104 = .ok (.istore_n 3, 1) := by decide +kernel
theorem d_M_tree_105 : decode b_M_tree 105 = .ok (.aload_n 0, 1) := by decide +kernel
theorem d_M_tree_106 : decode b_M_tree 106 = .ok (.iload_n 2, 1) := by decide +kernel
theorem d_M_tree_107 : decode b_M_tree 107 = .ok (.iload_n 3, 1) := by decide +kernel
theorem d_M_tree_108 : decode b_M_tree 108 = .ok (.invokevirtual 173, 3) := by decide +kernel
theorem d_M_tree_111 : decode b_M_tree 111 = .ok (.ifCond .eq 48, 3) := by decide +kernel
theorem d_M_tree_114 : decode b_M_tree 114 = .ok (.aload_n 0, 1) := by decide +kernel
theorem d_M_tree_115 : decode b_M_tree 115 = .ok (.aload_n 0, 1) := by decide +kernel
theorem d_M_tree_116 : decode b_M_tree 116 = .ok (.getfield 157, 3) := by decide +kernel
theorem d_M_tree_119 : decode b_M_tree 119 = .ok (.invokevirtual 79, 3) := by decide +kernel
theorem d_M_tree_122 : decode b_M_tree 122 = .ok (.l2i, 1) := by decide +kernel
theorem d_M_tree_123 : decode b_M_tree 123 = .ok (.istore 4, 2) := by decide +kernel
theorem d_M_tree_125 : decode b_M_tree 125 = .ok (.aload_n 0, 1) := by decide +kernel
theorem d_M_tree_126 : decode b_M_tree 126 = .ok (.getfield 34, 3) := by decide +kernel
theorem d_M_tree_129 : decode b_M_tree 129 = .ok (.iload 4, 2) := by decide +kernel
theorem d_M_tree_131 : decode b_M_tree 131 = .ok (.baload, 1) := by decide +kernel
theorem d_M_tree_132 : decode b_M_tree 132 = .ok (.ifCond .ne 12, 3) := by decide +kernel
theorem d_M_tree_135 : decode b_M_tree 135 = .ok (.aload_n 0, 1) := by decide +kernel
theorem d_M_tree_136 : decode b_M_tree 136 = .ok (.iload 4, 2) := by decide +kernel
theorem d_M_tree_138 : decode b_M_tree 138 = .ok (.invokevirtual 163, 3) := by decide +kernel
theorem d_M_tree_141 : decode b_M_tree 141 = .ok (.ifCond .ne 5, 3) := by decide +kernel
theorem d_M_tree_144 : decode b_M_tree 144 = .ok (.iconst 4, 1) := by decide +kernel
theorem d_M_tree_145 : decode b_M_tree 145 = .ok (.ireturn, 1) := by decide +kernel
theorem d_M_tree_146 : decode b_M_tree 146 = .ok (.aload_n 0, 1) := by decide +kernel
theorem d_M_tree_147 : decode b_M_tree 147 = .ok (.iload 4, 2) := by decide +kernel
theorem d_M_tree_149 : decode b_M_tree 149 = .ok (.iload_n 2, 1) := by decide +kernel
theorem d_M_tree_150 : decode b_M_tree 150 = .ok (.invokevirtual 166, 3) := by decide +kernel
theorem d_M_tree_153 : decode b_M_tree 153 = .ok (.iinc 3 1, 3) := by decide +kernel
theorem d_M_tree_156 : decode b_M_tree 156 = .ok (.goto (-51), 3) := by decide +kernel
theorem d_M_tree_159 : decode b_M_tree 159 = .ok (.iinc 1 1, 3) := by decide +kernel
theorem d_M_tree_162 : decode b_M_tree 162 = .ok (.goto (-98), 3) := by decide +kernel
theorem d_M_tree_165 : decode b_M_tree 165 = .ok (.iconst 0, 1) := by decide +kernel
theorem d_M_tree_166 : decode b_M_tree 166 = .ok (.ireturn, 1) := by decide +kernel
theorem d_M_badLinks_0 : decode b_M_badLinks 0 = .ok (.iconst 0, 1) := by decide +kernel
theorem d_M_badLinks_1 : decode b_M_badLinks 1 = .ok (.istore_n 1, 1) := by decide +kernel
theorem d_M_badLinks_2 : decode b_M_badLinks 2 = .ok (.iload_n 1, 1) := by decide +kernel
theorem d_M_badLinks_3 : decode b_M_badLinks 3 = .ok (.aload_n 0, 1) := by decide +kernel
theorem d_M_badLinks_4 : decode b_M_badLinks 4 = .ok (.getfield 160, 3) := by decide +kernel
theorem d_M_badLinks_7 : decode b_M_badLinks 7 = .ok (.if_icmp .ge 56, 3) := by decide +kernel
theorem d_M_badLinks_10 : decode b_M_badLinks 10 = .ok (.aload_n 0, 1) := by decide +kernel
theorem d_M_badLinks_11 : decode b_M_badLinks 11 = .ok (.getfield 25, 3) := by decide +kernel
theorem d_M_badLinks_14 : decode b_M_badLinks 14 = .ok (.iload_n 1, 1) := by decide +kernel
theorem d_M_badLinks_15 : decode b_M_badLinks 15 = .ok (.iaload, 1) := by decide +kernel
theorem d_M_badLinks_16 : decode b_M_badLinks 16 = .ok (.istore_n 2, 1) := by decide +kernel
theorem d_M_badLinks_17 : decode b_M_badLinks 17 = .ok (.aload_n 0, 1) := by decide +kernel
theorem d_M_badLinks_18 : decode b_M_badLinks 18 = .ok (.aload_n 0, 1) := by decide +kernel
theorem d_M_badLinks_19 : decode b_M_badLinks 19 = .ok (.iload_n 2, 1) := by decide +kernel
theorem d_M_badLinks_20 : decode b_M_badLinks 20 = .ok (.invokevirtual 115, 3) := by decide +kernel
theorem d_M_badLinks_23 : decode b_M_badLinks 23 = .ok (.bipush 26, 2) := by decide +kernel
theorem d_M_badLinks_25 : decode b_M_badLinks 25 = .ok (.iadd, 1) := by decide +kernel
theorem d_M_badLinks_26 : decode b_M_badLinks 26 = .ok (.invokevirtual 51, 3) := by decide +kernel
theorem d_M_badLinks_29 : decode b_M_badLinks 29 = .ok (.aload_n 0, 1) := by decide +kernel
theorem d_M_badLinks_30 : decode b_M_badLinks 30 = .ok (.iload_n 2, 1) := by decide +kernel
theorem d_M_badLinks_31 : decode b_M_badLinks 31 = .ok (.invokevirtual 146, 3) := by decide +kernel
theorem d_M_badLinks_34 : decode b_M_badLinks 34 = .ok (.sipush 16384, 3) := by decide +kernel
theorem d_M_badLinks_37 : decode b_M_badLinks 37 = .ok (.if_icmp .ne 14, 3) := by decide +kernel
theorem d_M_badLinks_40 : decode b_M_badLinks 40 = .ok (.iconst 2, 1) := by decide +kernel
theorem d_M_badLinks_41 : decode b_M_badLinks 41 = .ok (.aload_n 0, 1) := by decide +kernel
theorem d_M_badLinks_42 : decode b_M_badLinks 42 = .ok (.getfield 31, 3) := by decide +kernel
theorem d_M_badLinks_45 : decode b_M_badLinks 45 = .ok (.iload_n 2, 1) := by decide +kernel
theorem d_M_badLinks_46 : decode b_M_badLinks 46 = .ok (.iaload, 1) := by decide +kernel
theorem d_M_badLinks_47 : decode b_M_badLinks 47 = .ok (.iadd, 1) := by decide +kernel
theorem d_M_badLinks_48 : decode b_M_badLinks 48 = .ok (.goto 4, 3) := by decide +kernel
theorem d_M_badLinks_51 : decode b_M_badLinks 51 = .ok (.iconst 1, 1) := by decide +kernel
theorem d_M_badLinks_52 : decode b_M_badLinks 52 = .ok (.if_icmp .eq 5, 3) := by decide +kernel
theorem d_M_badLinks_55 : decode b_M_badLinks 55 = .ok (.iconst 1, 1) := by decide +kernel
theorem d_M_badLinks_56 : decode b_M_badLinks 56 = .ok (.ireturn, 1) := by decide +kernel
theorem d_M_badLinks_57 : decode b_M_badLinks 57 = .ok (.iinc 1 1, 3) := by decide +kernel
theorem d_M_badLinks_60 : decode b_M_badLinks 60 = .ok (.goto (-58), 3) := by decide +kernel
theorem d_M_badLinks_63 : decode b_M_badLinks 63 = .ok (.iconst 0, 1) := by decide +kernel
theorem d_M_badLinks_64 : decode b_M_badLinks 64 = .ok (.ireturn, 1) := by decide +kernel
theorem d_M_badInodes_0 : decode b_M_badInodes 0 = .ok (.iconst 1, 1) := by decide +kernel
theorem d_M_badInodes_1 : decode b_M_badInodes 1 = .ok (.istore_n 1, 1) := by decide +kernel
theorem d_M_badInodes_2 : decode b_M_badInodes 2 = .ok (.iload_n 1, 1) := by decide +kernel
theorem d_M_badInodes_3 : decode b_M_badInodes 3 = .ok (.aload_n 0, 1) := by decide +kernel
theorem d_M_badInodes_4 : decode b_M_badInodes 4 = .ok (.getfield 73, 3) := by decide +kernel
theorem d_M_badInodes_7 : decode b_M_badInodes 7 = .ok (.aload_n 0, 1) := by decide +kernel
theorem d_M_badInodes_8 : decode b_M_badInodes 8 = .ok (.getfield 93, 3) := by decide +kernel
theorem d_M_badInodes_11 : decode b_M_badInodes 11 = .ok (.imul, 1) := by decide +kernel
theorem d_M_badInodes_12 : decode b_M_badInodes 12 = .ok (.if_icmp .gt 79, 3) := by decide +kernel
theorem d_M_badInodes_15 : decode b_M_badInodes 15 = .ok (.aload_n 0, 1) := by decide +kernel
theorem d_M_badInodes_16 : decode b_M_badInodes 16 = .ok (.iload_n 1, 1) := by decide +kernel
theorem d_M_badInodes_17 : decode b_M_badInodes 17 = .ok (.invokevirtual 149, 3) := by decide +kernel
theorem d_M_badInodes_20 : decode b_M_badInodes 20 = .ok (.iload_n 1, 1) := by decide +kernel
theorem d_M_badInodes_21 : decode b_M_badInodes 21 = .ok (.bipush 12, 2) := by decide +kernel
theorem d_M_badInodes_23 : decode b_M_badInodes 23 = .ok (.if_icmp .lt 12, 3) := by decide +kernel
theorem d_M_badInodes_26 : decode b_M_badInodes 26 = .ok (.aload_n 0, 1) := by decide +kernel
theorem d_M_badInodes_27 : decode b_M_badInodes 27 = .ok (.getfield 34, 3) := by decide +kernel
theorem d_M_badInodes_30 : decode b_M_badInodes 30 = .ok (.iload_n 1, 1) := by decide +kernel
theorem d_M_badInodes_31 : decode b_M_badInodes 31 = .ok (.baload, 1) := by decide +kernel
theorem d_M_badInodes_32 : decode b_M_badInodes 32 = .ok (.ifCond .eq 7, 3) := by decide +kernel
theorem d_M_badInodes_35 : decode b_M_badInodes 35 = .ok (.iconst 1, 1) := by decide +kernel
theorem d_M_badInodes_36 : decode b_M_badInodes 36 = .ok (.goto 4, 3) := by decide +kernel
theorem d_M_badInodes_39 : decode b_M_badInodes 39 = .ok (.iconst 0, 1) := by decide +kernel
theorem d_M_badInodes_40 : decode b_M_badInodes 40 = .ok (.if_icmp .eq 5, 3) := by decide +kernel
theorem d_M_badInodes_43 : decode b_M_badInodes 43 = .ok (.iconst 1, 1) := by decide +kernel
theorem d_M_badInodes_44 : decode b_M_badInodes 44 = .ok (.ireturn, 1) := by decide +kernel
theorem d_M_badInodes_45 : decode b_M_badInodes 45 = .ok (.iconst 0, 1) := by decide +kernel
theorem d_M_badInodes_46 : decode b_M_badInodes 46 = .ok (.istore_n 2, 1) := by decide +kernel
theorem d_M_badInodes_47 : decode b_M_badInodes 47 = .ok (.iload_n 2, 1) := by decide +kernel
theorem d_M_badInodes_48 : decode b_M_badInodes 48 = .ok (.sipush 128, 3) := by decide +kernel
theorem d_M_badInodes_51 : decode b_M_badInodes 51 = .ok (.if_icmp .ge 34, 3) := by decide +kernel
theorem d_M_badInodes_54 : decode b_M_badInodes 54 = .ok (.aload_n 0, 1) := by decide +kernel
theorem d_M_badInodes_55 : decode b_M_badInodes 55 = .ok (.getfield 34, 3) := by decide +kernel
theorem d_M_badInodes_58 : decode b_M_badInodes 58 = .ok (.iload_n 1, 1) := by decide +kernel
theorem d_M_badInodes_59 : decode b_M_badInodes 59 = .ok (.baload, 1) := by decide +kernel
theorem d_M_badInodes_60 : decode b_M_badInodes 60 = .ok (.ifCond .ne 25, 3) := by decide +kernel
theorem d_M_badInodes_63 : decode b_M_badInodes 63 = .ok (.aload_n 0, 1) := by decide +kernel
theorem d_M_badInodes_64 : decode b_M_badInodes 64 = .ok (.aload_n 0, 1) := by decide +kernel
theorem d_M_badInodes_65 : decode b_M_badInodes 65 = .ok (.iload_n 1, 1) := by decide +kernel
theorem d_M_badInodes_66 : decode b_M_badInodes 66 = .ok (.invokevirtual 115, 3) := by decide +kernel
theorem d_M_badInodes_69 : decode b_M_badInodes 69 = .ok (.iload_n 2, 1) := by decide +kernel
theorem d_M_badInodes_70 : decode b_M_badInodes 70 = .ok (.iadd, 1) := by decide +kernel
theorem d_M_badInodes_71 : decode b_M_badInodes 71 = .ok (.invokevirtual 47, 3) := by decide +kernel
theorem d_M_badInodes_74 : decode b_M_badInodes 74 = .ok (.ifCond .eq 5, 3) := by decide +kernel
theorem d_M_badInodes_77 : decode b_M_badInodes 77 = .ok (.iconst 1, 1) := by decide +kernel
theorem d_M_badInodes_78 : decode b_M_badInodes 78 = .ok (.ireturn, 1) := by decide +kernel
theorem d_M_badInodes_79 : decode b_M_badInodes 79 = .ok (.iinc 2 1, 3) := by decide +kernel
theorem d_M_badInodes_82 : decode b_M_badInodes 82 = .ok (.goto (-35), 3) := by decide +kernel
theorem d_M_badInodes_85 : decode b_M_badInodes 85 = .ok (.iinc 1 1, 3) := by decide +kernel
theorem d_M_badInodes_88 : decode b_M_badInodes 88 = .ok (.goto (-86), 3) := by decide +kernel
theorem d_M_badInodes_91 : decode b_M_badInodes 91 = .ok (.iconst 0, 1) := by decide +kernel
theorem d_M_badInodes_92 : decode b_M_badInodes 92 = .ok (.ireturn, 1) := by decide +kernel
theorem d_M_badCounts_0 : decode b_M_badCounts 0 = .ok (.lconst 0, 1) := by decide +kernel
theorem d_M_badCounts_1 : decode b_M_badCounts 1 = .ok (.lstore_n 1, 1) := by decide +kernel
theorem d_M_badCounts_2 : decode b_M_badCounts 2 = .ok (.lconst 0, 1) := by decide +kernel
theorem d_M_badCounts_3 : decode b_M_badCounts 3 = .ok (.lstore_n 3, 1) := by decide +kernel
theorem d_M_badCounts_4 : decode b_M_badCounts 4 = .ok (.iconst 0, 1) := by decide +kernel
theorem d_M_badCounts_5 : decode b_M_badCounts 5 = .ok (.istore 5, 2) := by decide +kernel
theorem d_M_badCounts_7 : decode b_M_badCounts 7 = .ok (.iload 5, 2) := by decide +kernel
theorem d_M_badCounts_9 : decode b_M_badCounts 9 = .ok (.aload_n 0, 1) := by decide +kernel
theorem d_M_badCounts_10 : decode b_M_badCounts 10 = .ok (.getfield 73, 3) := by decide +kernel
theorem d_M_badCounts_13 : decode b_M_badCounts 13 = .ok (.if_icmp .ge 329, 3) := by decide +kernel
theorem d_M_badCounts_16 : decode b_M_badCounts 16 = .ok (.iconst 0, 1) := by decide +kernel
theorem d_M_badCounts_17 : decode b_M_badCounts 17 = .ok (.istore 6, 2) := by decide +kernel
theorem d_M_badCounts_19 : decode b_M_badCounts 19 = .ok (.iconst 0, 1) := by decide +kernel
theorem d_M_badCounts_20 : decode b_M_badCounts 20 = .ok (.istore 7, 2) := by decide +kernel
theorem d_M_badCounts_22 : decode b_M_badCounts 22 = .ok (.iconst 0, 1) := by decide +kernel
theorem d_M_badCounts_23 : decode b_M_badCounts 23 = .ok (.istore 8, 2) := by decide +kernel
theorem d_M_badCounts_25 : decode b_M_badCounts 25 = .ok (.iconst 0, 1) := by decide +kernel
theorem d_M_badCounts_26 : decode b_M_badCounts 26 = .ok (.istore 9, 2) := by decide +kernel
theorem d_M_badCounts_28 : decode b_M_badCounts 28 = .ok (.iload 9, 2) := by decide +kernel
theorem d_M_badCounts_30 : decode b_M_badCounts 30 = .ok (.sipush 8192, 3) := by decide +kernel
theorem d_M_badCounts_33 : decode b_M_badCounts 33 = .ok (.if_icmp .ge 172, 3) := by decide +kernel
theorem d_M_badCounts_36 : decode b_M_badCounts 36 = .ok (.iload 9, 2) := by decide +kernel
theorem d_M_badCounts_38 : decode b_M_badCounts 38 = .ok (.aload_n 0, 1) := by decide +kernel
theorem d_M_badCounts_39 : decode b_M_badCounts 39 = .ok (.iload 5, 2) := by decide +kernel
theorem d_M_badCounts_41 : decode b_M_badCounts 41 = .ok (.invokevirtual 104, 3) := by decide +kernel
theorem d_M_badCounts_44 : decode b_M_badCounts 44 = .ok (.if_icmp .ge 7, 3) := by decide +kernel
theorem d_M_badCounts_47 : decode b_M_badCounts 47 = .ok (.iconst 1, 1) := by decide +kernel
theorem d_M_badCounts_48 : decode b_M_badCounts 48 = .ok (.goto 4, 3) := by decide +kernel
theorem d_M_badCounts_51 : decode b_M_badCounts 51 = .ok (.iconst 0, 1) := by decide +kernel
theorem d_M_badCounts_52 : decode b_M_badCounts 52 = .ok (.istore 10, 2) := by decide +kernel
theorem d_M_badCounts_54 : decode b_M_badCounts 54 = .ok (.iload 10, 2) := by decide +kernel
theorem d_M_badCounts_56 : decode b_M_badCounts 56 = .ok (.ifCond .eq 37, 3) := by decide +kernel
theorem d_M_badCounts_59 : decode b_M_badCounts 59 = .ok (.aload_n 0, 1) := by decide +kernel
theorem d_M_badCounts_60 : decode b_M_badCounts 60 = .ok (.getfield 18, 3) := by decide +kernel
theorem d_M_badCounts_63 : decode b_M_badCounts 63 = .ok (.aload_n 0, 1) := by decide +kernel
theorem d_M_badCounts_64 : decode b_M_badCounts 64 = .ok (.iload 5, 2) := by decide +kernel
theorem d_M_badCounts_66 : decode b_M_badCounts 66 = .ok (.invokevirtual 76, 3) := by decide +kernel
theorem d_M_badCounts_69 : decode b_M_badCounts 69 = .ok (.iload 9, 2) := by decide +kernel
theorem d_M_badCounts_71 : decode b_M_badCounts 71 = .ok (.iadd, 1) := by decide +kernel
theorem d_M_badCounts_72 : decode b_M_badCounts 72 = .ok (.baload, 1) := by decide +kernel
theorem d_M_badCounts_73 : decode b_M_badCounts 73 = .ok (.ifCond .ne 20, 3) := by decide +kernel
theorem d_M_badCounts_76 : decode b_M_badCounts 76 = .ok (.aload_n 0, 1) := by decide +kernel
theorem d_M_badCounts_77 : decode b_M_badCounts 77 = .ok (.getfield 22, 3) := by decide +kernel
theorem d_M_badCounts_80 : decode b_M_badCounts 80 = .ok (.aload_n 0, 1) := by decide +kernel
theorem d_M_badCounts_81 : decode b_M_badCounts 81 = .ok (.iload 5, 2) := by decide +kernel
theorem d_M_badCounts_83 : decode b_M_badCounts 83 = .ok (.invokevirtual 76, 3) := by decide +kernel
theorem d_M_badCounts_86 : decode b_M_badCounts 86 = .ok (.iload 9, 2) := by decide +kernel
theorem d_M_badCounts_88 : decode b_M_badCounts 88 = .ok (.iadd, 1) := by decide +kernel
theorem d_M_badCounts_89 : decode b_M_badCounts 89 = .ok (.baload, 1) := by decide +kernel
theorem d_M_badCounts_90 : decode b_M_badCounts 90 = .ok (.ifCond .eq 7, 3) := by decide +kernel
theorem d_M_badCounts_93 : decode b_M_badCounts 93 = .ok (.iconst 1, 1) := by decide +kernel
theorem d_M_badCounts_94 : decode b_M_badCounts 94 = .ok (.goto 4, 3) := by decide +kernel
theorem d_M_badCounts_97 : decode b_M_badCounts 97 = .ok (.iconst 0, 1) := by decide +kernel
theorem d_M_badCounts_98 : decode b_M_badCounts 98 = .ok (.istore 11, 2) := by decide +kernel
theorem d_M_badCounts_100 : decode b_M_badCounts 100 = .ok (.aload_n 0, 1) := by decide +kernel
theorem d_M_badCounts_101 : decode b_M_badCounts 101 = .ok (.aload_n 0, 1) := by decide +kernel
theorem d_M_badCounts_102 : decode b_M_badCounts 102 = .ok (.getfield 14, 3) := by decide +kernel
theorem d_M_badCounts_105 : decode b_M_badCounts 105 = .ok (.iload 5, 2) := by decide +kernel
theorem d_M_badCounts_107 : decode b_M_badCounts 107 = .ok (.iaload, 1) := by decide +kernel
theorem d_M_badCounts_108 : decode b_M_badCounts 108 = .ok (.iload 9, 2) := by decide +kernel
theorem d_M_badCounts_110 : decode b_M_badCounts 110 = .ok (.invokevirtual 111, 3) := by decide +kernel
theorem d_M_badCounts_113 : decode b_M_badCounts 113 = .ok (.iload 11, 2) := by decide +kernel
theorem d_M_badCounts_115 : decode b_M_badCounts 115 = .ok (.if_icmp .ne 30, 3) := by decide +kernel
theorem d_M_badCounts_118 : decode b_M_badCounts 118 = .ok (.iload 9, 2) := by decide +kernel
theorem d_M_badCounts_120 : decode b_M_badCounts 120 = .ok (.aload_n 0, 1) := by decide +kernel
theorem d_M_badCounts_121 : decode b_M_badCounts 121 = .ok (.getfield 93, 3) := by decide +kernel
theorem d_M_badCounts_124 : decode b_M_badCounts 124 = .ok (.if_icmp .lt 23, 3) := by decide +kernel
theorem d_M_badCounts_127 : decode b_M_badCounts 127 = .ok (.aload_n 0, 1) := by decide +kernel
theorem d_M_badCounts_128 : decode b_M_badCounts 128 = .ok (.aload_n 0, 1) := by decide +kernel
theorem d_M_badCounts_129 : decode b_M_badCounts 129 = .ok (.getfield 14, 3) := by decide +kernel
theorem d_M_badCounts_132 : decode b_M_badCounts 132 = .ok (.iload 5, 2) := by decide +kernel
theorem d_M_badCounts_134 : decode b_M_badCounts 134 = .ok (.iaload, 1) := by decide +kernel
theorem d_M_badCounts_135 : decode b_M_badCounts 135 = .ok (.iconst 1, 1) := by decide +kernel
theorem d_M_badCounts_136 : decode b_M_badCounts 136 = .ok (.iadd, 1) := by decide +kernel
theorem d_M_badCounts_137 : decode b_M_badCounts 137 = .ok (.iload 9, 2) := by decide +kernel
theorem d_M_badCounts_139 : decode b_M_badCounts 139 = .ok (.invokevirtual 111, 3) := by decide +kernel
theorem d_M_badCounts_142 : decode b_M_badCounts 142 = .ok (.ifCond .ne 5, 3) := by decide +kernel
theorem d_M_badCounts_145 : decode b_M_badCounts 145 = .ok (.iconst 1, 1) := by decide +kernel
theorem d_M_badCounts_146 : decode b_M_badCounts 146 = .ok (.ireturn, 1) := by decide +kernel
theorem d_M_badCounts_147 : decode b_M_badCounts 147 = .ok (.iload 6, 2) := by decide +kernel
theorem d_M_badCounts_149 : decode b_M_badCounts 149 = .ok (.iload 11, 2) := by decide +kernel
theorem d_M_badCounts_151 : decode b_M_badCounts 151 = .ok (.ifCond .eq 7, 3) := by decide +kernel
theorem d_M_badCounts_154 : decode b_M_badCounts 154 = .ok (.iconst 0, 1) := by decide +kernel
theorem d_M_badCounts_155 : decode b_M_badCounts 155 = .ok (.goto 4, 3) := by decide +kernel
theorem d_M_badCounts_158 : decode b_M_badCounts 158 = .ok (.iconst 1, 1) := by decide +kernel
theorem d_M_badCounts_159 : decode b_M_badCounts 159 = .ok (.iadd, 1) := by decide +kernel
theorem d_M_badCounts_160 : decode b_M_badCounts 160 = .ok (.istore 6, 2) := by decide +kernel
theorem d_M_badCounts_162 : decode b_M_badCounts 162 = .ok (.iload 7, 2) := by decide +kernel
theorem d_M_badCounts_164 : decode b_M_badCounts 164 = .ok (.iload 9, 2) := by decide +kernel
theorem d_M_badCounts_166 : decode b_M_badCounts 166 = .ok (.aload_n 0, 1) := by decide +kernel
theorem d_M_badCounts_167 : decode b_M_badCounts 167 = .ok (.getfield 93, 3) := by decide +kernel
theorem d_M_badCounts_170 : decode b_M_badCounts 170 = .ok (.if_icmp .ge 25, 3) := by decide +kernel
theorem d_M_badCounts_173 : decode b_M_badCounts 173 = .ok (.aload_n 0, 1) := by decide +kernel
theorem d_M_badCounts_174 : decode b_M_badCounts 174 = .ok (.aload_n 0, 1) := by decide +kernel
theorem d_M_badCounts_175 : decode b_M_badCounts 175 = .ok (.getfield 14, 3) := by decide +kernel
theorem d_M_badCounts_178 : decode b_M_badCounts 178 = .ok (.iload 5, 2) := by decide +kernel
theorem d_M_badCounts_180 : decode b_M_badCounts 180 = .ok (.iaload, 1) := by decide +kernel
theorem d_M_badCounts_181 : decode b_M_badCounts 181 = .ok (.iconst 1, 1) := by decide +kernel
theorem d_M_badCounts_182 : decode b_M_badCounts 182 = .ok (.iadd, 1) := by decide +kernel
theorem d_M_badCounts_183 : decode b_M_badCounts 183 = .ok (.iload 9, 2) := by decide +kernel
theorem d_M_badCounts_185 : decode b_M_badCounts 185 = .ok (.invokevirtual 111, 3) := by decide +kernel
theorem d_M_badCounts_188 : decode b_M_badCounts 188 = .ok (.ifCond .ne 7, 3) := by decide +kernel
theorem d_M_badCounts_191 : decode b_M_badCounts 191 = .ok (.iconst 1, 1) := by decide +kernel
theorem d_M_badCounts_192 : decode b_M_badCounts 192 = .ok (.goto 4, 3) := by decide +kernel
theorem d_M_badCounts_195 : decode b_M_badCounts 195 = .ok (.iconst 0, 1) := by decide +kernel
theorem d_M_badCounts_196 : decode b_M_badCounts 196 = .ok (.iadd, 1) := by decide +kernel
theorem d_M_badCounts_197 : decode b_M_badCounts 197 = .ok (.istore 7, 2) := by decide +kernel
theorem d_M_badCounts_199 : decode b_M_badCounts 199 = .ok (.iinc 9 1, 3) := by decide +kernel
theorem d_M_badCounts_202 : decode b_M_badCounts 202 = .ok (.goto (-174), 3) := by decide +kernel
theorem d_M_badCounts_205 : decode b_M_badCounts 205 = .ok (.iconst 0, 1) := by decide +kernel
theorem d_M_badCounts_206 : decode b_M_badCounts 206 = .ok (.istore 9, 2) := by decide +kernel
theorem d_M_badCounts_208 : decode b_M_badCounts 208 = .ok (.iload 9, 2) := by decide +kernel
theorem d_M_badCounts_210 : decode b_M_badCounts 210 = .ok (.aload_n 0, 1) := by decide +kernel
theorem d_M_badCounts_211 : decode b_M_badCounts 211 = .ok (.getfield 160, 3) := by decide +kernel
theorem d_M_badCounts_214 : decode b_M_badCounts 214 = .ok (.if_icmp .ge 55, 3) := by decide +kernel
theorem d_M_badCounts_217 : decode b_M_badCounts 217 = .ok (.iload 8, 2) := by decide +kernel
theorem d_M_badCounts_219 : decode b_M_badCounts 219 = .ok (.aload_n 0, 1) := by decide +kernel
theorem d_M_badCounts_220 : decode b_M_badCounts 220 = .ok (.aload_n 0, 1) := by decide +kernel
theorem d_M_badCounts_221 : decode b_M_badCounts 221 = .ok (.getfield 25, 3) := by decide +kernel
theorem d_M_badCounts_224 : decode b_M_badCounts 224 = .ok (.iload 9, 2) := by decide +kernel
theorem d_M_badCounts_226 : decode b_M_badCounts 226 = .ok (.iaload, 1) := by decide +kernel
theorem d_M_badCounts_227 : decode b_M_badCounts 227 = .ok (.invokevirtual 146, 3) := by decide +kernel
theorem d_M_badCounts_230 : decode b_M_badCounts 230 = .ok (.sipush 16384, 3) := by decide +kernel
theorem d_M_badCounts_233 : decode b_M_badCounts 233 = .ok (.if_icmp .ne 26, 3) := by decide +kernel
theorem d_M_badCounts_236 : decode b_M_badCounts 236 = .ok (.aload_n 0, 1) := by decide +kernel
theorem d_M_badCounts_237 : decode b_M_badCounts 237 = .ok (.getfield 25, 3) := by decide +kernel
theorem d_M_badCounts_240 : decode b_M_badCounts 240 = .ok (.iload 9, 2) := by decide +kernel
theorem d_M_badCounts_242 : decode b_M_badCounts 242 = .ok (.iaload, 1) := by decide +kernel
theorem d_M_badCounts_243 : decode b_M_badCounts 243 = .ok (.iconst 1, 1) := by decide +kernel
theorem d_M_badCounts_244 : decode b_M_badCounts 244 = .ok (.isub, 1) := by decide +kernel
theorem d_M_badCounts_245 : decode b_M_badCounts 245 = .ok (.aload_n 0, 1) := by decide +kernel
theorem d_M_badCounts_246 : decode b_M_badCounts 246 = .ok (.getfield 93, 3) := by decide +kernel
theorem d_M_badCounts_249 : decode b_M_badCounts 249 = .ok (.idiv, 1) := by decide +kernel
theorem d_M_badCounts_250 : decode b_M_badCounts 250 = .ok (.iload 5, 2) := by decide +kernel
theorem d_M_badCounts_252 : decode b_M_badCounts 252 = .ok (.if_icmp .ne 7, 3) := by decide +kernel
theorem d_M_badCounts_255 : decode b_M_badCounts 255 = .ok (.iconst 1, 1) := by decide +kernel
theorem d_M_badCounts_256 : decode b_M_badCounts 256 = .ok (.goto 4, 3) := by decide +kernel
theorem d_M_badCounts_259 : decode b_M_badCounts 259 = .ok (.iconst 0, 1) := by decide +kernel
theorem d_M_badCounts_260 : decode b_M_badCounts 260 = .ok (.iadd, 1) := by decide +kernel
theorem d_M_badCounts_261 : decode b_M_badCounts 261 = .ok (.istore 8, 2) := by decide +kernel
theorem d_M_badCounts_263 : decode b_M_badCounts 263 = .ok (.iinc 9 1, 3) := by decide +kernel
theorem d_M_badCounts_266 : decode b_M_badCounts 266 = .ok (.goto (-58), 3) := by decide +kernel
theorem d_M_badCounts_269 : decode b_M_badCounts 269 = .ok (.sipush 2048, 3) := by decide +kernel
theorem d_M_badCounts_272 : decode b_M_badCounts 272 = .ok (.bipush 32, 2) := by decide +kernel
theorem d_M_badCounts_274 : decode b_M_badCounts 274 = .ok (.iload 5, 2) := by decide +kernel
theorem d_M_badCounts_276 : decode b_M_badCounts 276 = .ok (.imul, 1) := by decide +kernel
theorem d_M_badCounts_277 : decode b_M_badCounts 277 = .ok (.iadd, 1) := by decide +kernel
theorem d_M_badCounts_278 : decode b_M_badCounts 278 = .ok (.istore 9, 2) := by decide +kernel
theorem d_M_badCounts_280 : decode b_M_badCounts 280 = .ok (.aload_n 0, 1) := by decide +kernel
theorem d_M_badCounts_281 : decode b_M_badCounts 281 = .ok (.iload 9, 2) := by decide +kernel
theorem d_M_badCounts_283 : decode b_M_badCounts 283 = .ok (.bipush 12, 2) := by decide +kernel
theorem d_M_badCounts_285 : decode b_M_badCounts 285 = .ok (.iadd, 1) := by decide +kernel
theorem d_M_badCounts_286 : decode b_M_badCounts 286 = .ok (.invokevirtual 51, 3) := by decide +kernel
theorem d_M_badCounts_289 : decode b_M_badCounts 289 = .ok (.iload 6, 2) := by decide +kernel
theorem d_M_badCounts_291 : decode b_M_badCounts 291 = .ok (.if_icmp .ne 31, 3) := by decide +kernel
theorem d_M_badCounts_294 : decode b_M_badCounts 294 = .ok (.aload_n 0, 1) := by decide +kernel
theorem d_M_badCounts_295 : decode b_M_badCounts 295 = .ok (.iload 9, 2) := by decide +kernel
theorem d_M_badCounts_297 : decode b_M_badCounts 297 = .ok (.bipush 14, 2) := by decide +kernel
theorem d_M_badCounts_299 : decode b_M_badCounts 299 = .ok (.iadd, 1) := by decide +kernel
theorem d_M_badCounts_300 : decode b_M_badCounts 300 = .ok (.invokevirtual 51, 3) := by decide +kernel
theorem d_M_badCounts_303 : decode b_M_badCounts 303 = .ok (.iload 7, 2) := by decide +kernel
theorem d_M_badCounts_305 : decode b_M_badCounts 305 = .ok (.if_icmp .ne 17, 3) := by decide +kernel
theorem d_M_badCounts_308 : decode b_M_badCounts 308 = .ok (.aload_n 0, 1) := by decide +kernel
theorem d_M_badCounts_309 : decode b_M_badCounts 309 = .ok (.iload 9, 2) := by decide +kernel
theorem d_M_badCounts_311 : decode b_M_badCounts 311 = .ok (.bipush 16, 2) := by decide +kernel
theorem d_M_badCounts_313 : decode b_M_badCounts 313 = .ok (.iadd, 1) := by decide +kernel
theorem d_M_badCounts_314 : decode b_M_badCounts 314 = .ok (.invokevirtual 51, 3) := by decide +kernel
theorem d_M_badCounts_317 : decode b_M_badCounts 317 = .ok (.iload 8, 2) := by decide +kernel
theorem d_M_badCounts_319 : decode b_M_badCounts 319 = .ok (.if_icmp .eq 5, 3) := by decide +kernel
theorem d_M_badCounts_322 : decode b_M_badCounts 322 = .ok (.iconst 1, 1) := by decide +kernel
theorem d_M_badCounts_323 : decode b_M_badCounts 323 = .ok (.ireturn, 1) := by decide +kernel
theorem d_M_badCounts_324 : decode b_M_badCounts 324 = .ok (.lload_n 1, 1) := by decide +kernel
theorem d_M_badCounts_325 : decode b_M_badCounts 325 = .ok (.iload 6, 2) := by decide +kernel
theorem d_M_badCounts_327 : decode b_M_badCounts 327 = .ok (.i2l, 1) := by decide +kernel
theorem d_M_badCounts_328 : decode b_M_badCounts 328 = .ok (.ladd, 1) := by decide +kernel
theorem d_M_badCounts_329 : decode b_M_badCounts 329 = .ok (.lstore_n 1, 1) := by decide +kernel
theorem d_M_badCounts_330 : decode b_M_badCounts 330 = .ok (.lload_n 3, 1) := by decide +kernel
theorem d_M_badCounts_331 : decode b_M_badCounts 331 = .ok (.iload 7, 2) := by decide +kernel
theorem d_M_badCounts_333 : decode b_M_badCounts 333 = .ok (.i2l, 1) := by decide +kernel
theorem d_M_badCounts_334 : decode b_M_badCounts 334 = .ok (.ladd, 1) := by decide +kernel
theorem d_M_badCounts_335 : decode b_M_badCounts 335 = .ok (.lstore_n 3, 1) := by decide +kernel
theorem d_M_badCounts_336 : decode b_M_badCounts 336 = .ok (.iinc 5 1, 3) := by decide +kernel
theorem d_M_badCounts_339 : decode b_M_badCounts 339 = .ok (.goto (-332), 3) := by decide +kernel
theorem d_M_badCounts_342 : decode b_M_badCounts 342 = .ok (.aload_n 0, 1) := by decide +kernel
theorem d_M_badCounts_343 : decode b_M_badCounts 343 = .ok (.sipush 1036, 3) := by decide +kernel
theorem d_M_badCounts_346 : decode b_M_badCounts 346 = .ok (.invokevirtual 79, 3) := by decide +kernel
theorem d_M_badCounts_349 : decode b_M_badCounts 349 = .ok (.lload_n 1, 1) := by decide +kernel
theorem d_M_badCounts_350 : decode b_M_badCounts 350 = .ok (.lcmp, 1) := by decide +kernel
theorem d_M_badCounts_351 : decode b_M_badCounts 351 = .ok (.ifCond .ne 15, 3) := by decide +kernel
theorem d_M_badCounts_354 : decode b_M_badCounts 354 = .ok (.aload_n 0, 1) := by decide +kernel
theorem d_M_badCounts_355 : decode b_M_badCounts 355 = .ok (.sipush 1040, 3) := by decide +kernel
theorem d_M_badCounts_358 : decode b_M_badCounts 358 = .ok (.invokevirtual 79, 3) := by decide +kernel
theorem d_M_badCounts_361 : decode b_M_badCounts 361 = .ok (.lload_n 3, 1) := by decide +kernel
theorem d_M_badCounts_362 : decode b_M_badCounts 362 = .ok (.lcmp, 1) := by decide +kernel
theorem d_M_badCounts_363 : decode b_M_badCounts 363 = .ok (.ifCond .eq 7, 3) := by decide +kernel
theorem d_M_badCounts_366 : decode b_M_badCounts 366 = .ok (.iconst 1, 1) := by decide +kernel
theorem d_M_badCounts_367 : decode b_M_badCounts 367 = .ok (.goto 4, 3) := by decide +kernel
theorem d_M_badCounts_370 : decode b_M_badCounts 370 = .ok (.iconst 0, 1) := by decide +kernel
theorem d_M_badCounts_371 : decode b_M_badCounts 371 = .ok (.ireturn, 1) := by decide +kernel
