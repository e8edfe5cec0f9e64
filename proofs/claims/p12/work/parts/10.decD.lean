theorem d_D_holds_0 : decode b_D_holds 0 = .ok (.iload_n 3, 1) := by decide +kernel
theorem d_D_holds_1 : decode b_D_holds 1 = .ok (.ifCond .eq 25, 3) := by decide +kernel
theorem d_D_holds_4 : decode b_D_holds 4 = .ok (.iload_n 3, 1) := by decide +kernel
theorem d_D_holds_5 : decode b_D_holds 5 = .ok (.ifCond .le 25, 3) := by decide +kernel
theorem d_D_holds_8 : decode b_D_holds 8 = .ok (.lload_n 1, 1) := by decide +kernel
theorem d_D_holds_9 : decode b_D_holds 9 = .ok (.lconst 0, 1) := by decide +kernel
theorem d_D_holds_10 : decode b_D_holds 10 = .ok (.lcmp, 1) := by decide +kernel
theorem d_D_holds_11 : decode b_D_holds 11 = .ok (.ifCond .lt 19, 3) := by decide +kernel
theorem d_D_holds_14 : decode b_D_holds 14 = .ok (.lload_n 1, 1) := by decide +kernel
theorem d_D_holds_15 : decode b_D_holds 15 = .ok (.aload_n 0, 1) := by decide +kernel
theorem d_D_holds_16 : decode b_D_holds 16 = .ok (.getfield 24, 3) := by decide +kernel
theorem d_D_holds_19 : decode b_D_holds 19 = .ok (.iload_n 3, 1) := by decide +kernel
theorem d_D_holds_20 : decode b_D_holds 20 = .ok (.isub, 1) := by decide +kernel
theorem d_D_holds_21 : decode b_D_holds 21 = .ok (.i2l, 1) := by decide +kernel
theorem d_D_holds_22 : decode b_D_holds 22 = .ok (.lcmp, 1) := by decide +kernel
theorem d_D_holds_23 : decode b_D_holds 23 = .ok (.ifCond .gt 7, 3) := by decide +kernel
theorem d_D_holds_26 : decode b_D_holds 26 = .ok (.iconst 1, 1) := by decide +kernel
theorem d_D_holds_27 : decode b_D_holds 27 = .ok (.goto 4, 3) := by decide +kernel
theorem d_D_holds_30 : decode b_D_holds 30 = .ok (.iconst 0, 1) := by decide +kernel
theorem d_D_holds_31 : decode b_D_holds 31 = .ok (.ireturn, 1) := by decide +kernel
theorem d_D_set_0 : decode b_D_set 0 = .ok (.iload_n 3, 1) := by decide +kernel
theorem d_D_set_1 : decode b_D_set 1 = .ok (.iconst 1, 1) := by decide +kernel
theorem d_D_set_2 : decode b_D_set 2 = .ok (.if_icmp .lt 27, 3) := by decide +kernel
theorem d_D_set_5 : decode b_D_set 5 = .ok (.iload_n 3, 1) := by decide +kernel
theorem d_D_set_6 : decode b_D_set 6 = .ok (.bipush 8, 2) := by decide +kernel
theorem d_D_set_8 : decode b_D_set 8 = .ok (.if_icmp .gt 21, 3) := by decide +kernel
theorem d_D_set_11 : decode b_D_set 11 = .ok (.lload_n 1, 1) := by decide +kernel
theorem d_D_set_12 : decode b_D_set 12 = .ok (.lconst 0, 1) := by decide +kernel
theorem d_D_set_13 : decode b_D_set 13 = .ok (.lcmp, 1) := by decide +kernel
theorem d_D_set_14 : decode b_D_set 14 = .ok (.ifCond .lt 15, 3) := by decide +kernel
theorem d_D_set_17 : decode b_D_set 17 = .ok (.lload_n 1, 1) := by decide +kernel
theorem d_D_set_18 : decode b_D_set 18 = .ok (.aload_n 0, 1) := by decide +kernel
theorem d_D_set_19 : decode b_D_set 19 = .ok (.getfield 24, 3) := by decide +kernel
theorem d_D_set_22 : decode b_D_set 22 = .ok (.iload_n 3, 1) := by decide +kernel
theorem d_D_set_23 : decode b_D_set 23 = .ok (.isub, 1) := by decide +kernel
theorem d_D_set_24 : decode b_D_set 24 = .ok (.i2l, 1) := by decide +kernel
theorem d_D_set_25 : decode b_D_set 25 = .ok (.lcmp, 1) := by decide +kernel
theorem d_D_set_26 : decode b_D_set 26 = .ok (.ifCond .le 4, 3) := by decide +kernel
theorem d_D_set_29 : decode b_D_set 29 = .ok (.return_, 1) := by decide +kernel
theorem d_D_set_30 : decode b_D_set 30 = .ok (.lload_n 1, 1) := by decide +kernel
theorem d_D_set_31 : decode b_D_set 31 = .ok (.iconst 3, 1) := by decide +kernel
theorem d_D_set_32 : decode b_D_set 32 = .ok (.lshr, 1) := by decide +kernel
theorem d_D_set_33 : decode b_D_set 33 = .ok (.l2i, 1) := by decide +kernel
theorem d_D_set_34 : decode b_D_set 34 = .ok (.istore 6, 2) := by decide +kernel
theorem d_D_set_36 : decode b_D_set 36 = .ok (.lload_n 1, 1) := by decide +kernel
theorem d_D_set_37 : decode b_D_set 37 = .ok (.ldc2_w 31, 3) := by decide +kernel
theorem d_D_set_40 : decode b_D_set 40 = .ok (.land, 1) := by decide +kernel
theorem d_D_set_41 : decode b_D_set 41 = .ok (.l2i, 1) := by decide +kernel
theorem d_D_set_42 : decode b_D_set 42 = .ok (.iconst 3, 1) := by decide +kernel
theorem d_D_set_43 : decode b_D_set 43 = .ok (.ishl, 1) := by decide +kernel
theorem d_D_set_44 : decode b_D_set 44 = .ok (.istore 7, 2) := by decide +kernel
theorem d_D_set_46 : decode b_D_set 46 = .ok (.ldc2_w 33, 3) := by decide +kernel
theorem d_D_set_49 : decode b_D_set 49 = .ok (.bipush 64, 2) := by decide +kernel
theorem d_D_set_51 : decode b_D_set 51 = .ok (.bipush 8, 2) := by decide +kernel
theorem d_D_set_53 : decode b_D_set 53 = .ok (.iload_n 3, 1) := by decide +kernel
theorem d_D_set_54 : decode b_D_set 54 = .ok (.imul, 1) := by decide +kernel
theorem d_D_set_55 : decode b_D_set 55 = .ok (.isub, 1) := by decide +kernel
theorem d_D_set_56 : decode b_D_set 56 = .ok (.lushr, 1) := by decide +kernel
theorem d_D_set_57 : decode b_D_set 57 = .ok (.lstore 8, 2) := by decide +kernel
theorem d_D_set_59 : decode b_D_set 59 = .ok (.lload 4, 2) := by decide +kernel
theorem d_D_set_61 : decode b_D_set 61 = .ok (.lload 8, 2) := by decide +kernel
theorem d_D_set_63 : decode b_D_set 63 = .ok (.land, 1) := by decide +kernel
theorem d_D_set_64 : decode b_D_set 64 = .ok (.lstore 10, 2) := by decide +kernel
theorem d_D_set_66 : decode b_D_set 66 = .ok (.aload_n 0, 1) := by decide +kernel
theorem d_D_set_67 : decode b_D_set 67 = .ok (.getfield 27, 3) := by decide +kernel
theorem d_D_set_70 : decode b_D_set 70 = .ok (.iload 6, 2) := by decide +kernel
theorem d_D_set_72 : decode b_D_set 72 = .ok (.aload_n 0, 1) := by decide +kernel
theorem d_D_set_73 : decode b_D_set 73 = .ok (.getfield 27, 3) := by decide +kernel
theorem d_D_set_76 : decode b_D_set 76 = .ok (.iload 6, 2) := by decide +kernel
theorem d_D_set_78 : decode b_D_set 78 = .ok (.laload, 1) := by decide +kernel
theorem d_D_set_79 : decode b_D_set 79 = .ok (.lload 8, 2) := by decide +kernel
theorem d_D_set_81 : decode b_D_set 81 = .ok (.iload 7, 2) := by decide +kernel
theorem d_D_set_83 : decode b_D_set 83 = .ok (.lshl, 1) := by decide +kernel
theorem d_D_set_84 : decode b_D_set 84 = .ok (.ldc2_w 33, 3) := by decide +kernel
theorem d_D_set_87 : decode b_D_set 87 = .ok (.lxor, 1) := by decide +kernel
theorem d_D_set_88 : decode b_D_set 88 = .ok (.land, 1) := by decide +kernel
theorem d_D_set_89 : decode b_D_set 89 = .ok (.lload 10, 2) := by decide +kernel
theorem d_D_set_91 : decode b_D_set 91 = .ok (.iload 7, 2) := by decide +kernel
theorem d_D_set_93 : decode b_D_set 93 = .ok (.lshl, 1) := by decide +kernel
theorem d_D_set_94 : decode b_D_set 94 = .ok (.lor, 1) := by decide +kernel
theorem d_D_set_95 : decode b_D_set 95 = .ok (.lastore, 1) := by decide +kernel
theorem d_D_set_96 : decode b_D_set 96 = .ok (.iload 7, 2) := by decide +kernel
theorem d_D_set_98 : decode b_D_set 98 = .ok (.bipush 8, 2) := by decide +kernel
theorem d_D_set_100 : decode b_D_set 100 = .ok (.iload_n 3, 1) := by decide +kernel
theorem d_D_set_101 : decode b_D_set 101 = .ok (.imul, 1) := by decide +kernel
theorem d_D_set_102 : decode b_D_set 102 = .ok (.iadd, 1) := by decide +kernel
theorem d_D_set_103 : decode b_D_set 103 = .ok (.bipush 64, 2) := by decide +kernel
theorem d_D_set_105 : decode b_D_set 105 = .ok (.if_icmp .le 43, 3) := by decide +kernel
theorem d_D_set_108 : decode b_D_set 108 = .ok (.aload_n 0, 1) := by decide +kernel
theorem d_D_set_109 : decode b_D_set 109 = .ok (.getfield 27, 3) := by decide +kernel
theorem d_D_set_112 : decode b_D_set 112 = .ok (.iload 6, 2) := by decide +kernel
theorem d_D_set_114 : decode b_D_set 114 = .ok (.iconst 1, 1) := by decide +kernel
theorem d_D_set_115 : decode b_D_set 115 = .ok (.iadd, 1) := by decide +kernel
theorem d_D_set_116 : decode b_D_set 116 = .ok (.aload_n 0, 1) := by decide +kernel
theorem d_D_set_117 : decode b_D_set 117 = .ok (.getfield 27, 3) := by decide +kernel
theorem d_D_set_120 : decode b_D_set 120 = .ok (.iload 6, 2) := by decide +kernel
theorem d_D_set_122 : decode b_D_set 122 = .ok (.iconst 1, 1) := by decide +kernel
theorem d_D_set_123 : decode b_D_set 123 = .ok (.iadd, 1) := by decide +kernel
theorem d_D_set_124 : decode b_D_set 124 = .ok (.laload, 1) := by decide +kernel
theorem d_D_set_125 : decode b_D_set 125 = .ok (.lload 8, 2) := by decide +kernel
theorem d_D_set_127 : decode b_D_set 127 = .ok (.bipush 64, 2) := by decide +kernel
theorem d_D_set_129 : decode b_D_set 129 = .ok (.iload 7, 2) := by decide +kernel
theorem d_D_set_131 : decode b_D_set 131 = .ok (.isub, 1) := by decide +kernel
theorem d_D_set_132 : decode b_D_set 132 = .ok (.lushr, 1) := by decide +kernel
theorem d_D_set_133 : decode b_D_set 133 = .ok (.ldc2_w 33, 3) := by decide +kernel
theorem d_D_set_136 : decode b_D_set 136 = .ok (.lxor, 1) := by decide +kernel
theorem d_D_set_137 : decode b_D_set 137 = .ok (.land, 1) := by decide +kernel
theorem d_D_set_138 : decode b_D_set 138 = .ok (.lload 10, 2) := by decide +kernel
theorem d_D_set_140 : decode b_D_set 140 = .ok (.bipush 64, 2) := by decide +kernel
theorem d_D_set_142 : decode b_D_set 142 = .ok (.iload 7, 2) := by decide +kernel
theorem d_D_set_144 : decode b_D_set 144 = .ok (.isub, 1) := by decide +kernel
theorem d_D_set_145 : decode b_D_set 145 = .ok (.lushr, 1) := by decide +kernel
theorem d_D_set_146 : decode b_D_set 146 = .ok (.lor, 1) := by decide +kernel
theorem d_D_set_147 : decode b_D_set 147 = .ok (.lastore, 1) := by decide +kernel
theorem d_D_set_148 : decode b_D_set 148 = .ok (.return_, 1) := by decide +kernel
theorem d_D_spread_0 : decode b_D_spread 0 = .ok (.iload_n 3, 1) := by decide +kernel
theorem d_D_spread_1 : decode b_D_spread 1 = .ok (.sipush 255, 3) := by decide +kernel
theorem d_D_spread_4 : decode b_D_spread 4 = .ok (.iand, 1) := by decide +kernel
theorem d_D_spread_5 : decode b_D_spread 5 = .ok (.i2l, 1) := by decide +kernel
theorem d_D_spread_6 : decode b_D_spread 6 = .ok (.ldc2_w 35, 3) := by decide +kernel
theorem d_D_spread_9 : decode b_D_spread 9 = .ok (.lmul, 1) := by decide +kernel
theorem d_D_spread_10 : decode b_D_spread 10 = .ok (.lstore 4, 2) := by decide +kernel
theorem d_D_spread_12 : decode b_D_spread 12 = .ok (.iconst 0, 1) := by decide +kernel
theorem d_D_spread_13 : decode b_D_spread 13 = .ok (.istore 6, 2) := by decide +kernel
theorem d_D_spread_15 : decode b_D_spread 15 = .ok (.iload 6, 2) := by decide +kernel
theorem d_D_spread_17 : decode b_D_spread 17 = .ok (.iload_n 2, 1) := by decide +kernel
theorem d_D_spread_18 : decode b_D_spread 18 = .ok (.bipush 8, 2) := by decide +kernel
theorem d_D_spread_20 : decode b_D_spread 20 = .ok (.isub, 1) := by decide +kernel
theorem d_D_spread_21 : decode b_D_spread 21 = .ok (.if_icmp .gt 22, 3) := by decide +kernel
theorem d_D_spread_24 : decode b_D_spread 24 = .ok (.aload_n 0, 1) := by decide +kernel
theorem d_D_spread_25 : decode b_D_spread 25 = .ok (.iload_n 1, 1) := by decide +kernel
theorem d_D_spread_26 : decode b_D_spread 26 = .ok (.iload 6, 2) := by decide +kernel
theorem d_D_spread_28 : decode b_D_spread 28 = .ok (.iadd, 1) := by decide +kernel
theorem d_D_spread_29 : decode b_D_spread 29 = .ok (.i2l, 1) := by decide +kernel
theorem d_D_spread_30 : decode b_D_spread 30 = .ok (.bipush 8, 2) := by decide +kernel
theorem d_D_spread_32 : decode b_D_spread 32 = .ok (.lload 4, 2) := by decide +kernel
theorem d_D_spread_34 : decode b_D_spread 34 = .ok (.invokevirtual 37, 3) := by decide +kernel
theorem d_D_spread_37 : decode b_D_spread 37 = .ok (.iinc 6 8, 3) := by decide +kernel
theorem d_D_spread_40 : decode b_D_spread 40 = .ok (.goto (-25), 3) := by decide +kernel
theorem d_D_spread_43 : decode b_D_spread 43 = .ok (.aload_n 0, 1) := by decide +kernel
theorem d_D_spread_44 : decode b_D_spread 44 = .ok (.iload_n 1, 1) := by decide +kernel
theorem d_D_spread_45 : decode b_D_spread 45 = .ok (.iload 6, 2) := by decide +kernel
theorem d_D_spread_47 : decode b_D_spread 47 = .ok (.iadd, 1) := by decide +kernel
theorem d_D_spread_48 : decode b_D_spread 48 = .ok (.i2l, 1) := by decide +kernel
theorem d_D_spread_49 : decode b_D_spread 49 = .ok (.iload_n 2, 1) := by decide +kernel
theorem d_D_spread_50 : decode b_D_spread 50 = .ok (.iload 6, 2) := by decide +kernel
theorem d_D_spread_52 : decode b_D_spread 52 = .ok (.isub, 1) := by decide +kernel
theorem d_D_spread_53 : decode b_D_spread 53 = .ok (.lload 4, 2) := by decide +kernel
theorem d_D_spread_55 : decode b_D_spread 55 = .ok (.invokevirtual 37, 3) := by decide +kernel
theorem d_D_spread_58 : decode b_D_spread 58 = .ok (.return_, 1) := by decide +kernel
theorem d_D_number_0 : decode b_D_number 0 = .ok (.iload_n 3, 1) := by decide +kernel
theorem d_D_number_1 : decode b_D_number 1 = .ok (.iconst 1, 1) := by decide +kernel
theorem d_D_number_2 : decode b_D_number 2 = .ok (.if_icmp .lt 27, 3) := by decide +kernel
theorem d_D_number_5 : decode b_D_number 5 = .ok (.iload_n 3, 1) := by decide +kernel
theorem d_D_number_6 : decode b_D_number 6 = .ok (.bipush 8, 2) := by decide +kernel
theorem d_D_number_8 : decode b_D_number 8 = .ok (.if_icmp .gt 21, 3) := by decide +kernel
theorem d_D_number_11 : decode b_D_number 11 = .ok (.lload_n 1, 1) := by decide +kernel
theorem d_D_number_12 : decode b_D_number 12 = .ok (.lconst 0, 1) := by decide +kernel
theorem d_D_number_13 : decode b_D_number 13 = .ok (.lcmp, 1) := by decide +kernel
theorem d_D_number_14 : decode b_D_number 14 = .ok (.ifCond .lt 15, 3) := by decide +kernel
theorem d_D_number_17 : decode b_D_number 17 = .ok (.lload_n 1, 1) := by decide +kernel
theorem d_D_number_18 : decode b_D_number 18 = .ok (.aload_n 0, 1) := by decide +kernel
theorem d_D_number_19 : decode b_D_number 19 = .ok (.getfield 24, 3) := by decide +kernel
theorem d_D_number_22 : decode b_D_number 22 = .ok (.iload_n 3, 1) := by decide +kernel
theorem d_D_number_23 : decode b_D_number 23 = .ok (.isub, 1) := by decide +kernel
theorem d_D_number_24 : decode b_D_number 24 = .ok (.i2l, 1) := by decide +kernel
theorem d_D_number_25 : decode b_D_number 25 = .ok (.lcmp, 1) := by decide +kernel
theorem d_D_number_26 : decode b_D_number 26 = .ok (.ifCond .le 5, 3) := by decide +kernel
theorem d_D_number_29 : decode b_D_number 29 = .ok (.lconst 0, 1) := by decide +kernel
theorem d_D_number_30 : decode b_D_number 30 = .ok (.lreturn, 1) := by decide +kernel
theorem d_D_number_31 : decode b_D_number 31 = .ok (.lload_n 1, 1) := by decide +kernel
theorem d_D_number_32 : decode b_D_number 32 = .ok (.iconst 3, 1) := by decide +kernel
theorem d_D_number_33 : decode b_D_number 33 = .ok (.lshr, 1) := by decide +kernel
theorem d_D_number_34 : decode b_D_number 34 = .ok (.l2i, 1) := by decide +kernel
theorem d_D_number_35 : decode b_D_number 35 = .ok (.istore 4, 2) := by decide +kernel
theorem d_D_number_37 : decode b_D_number 37 = .ok (.lload_n 1, 1) := by decide +kernel
theorem d_D_number_38 : decode b_D_number 38 = .ok (.ldc2_w 31, 3) := by decide +kernel
theorem d_D_number_41 : decode b_D_number 41 = .ok (.land, 1) := by decide +kernel
theorem d_D_number_42 : decode b_D_number 42 = .ok (.l2i, 1) := by decide +kernel
theorem d_D_number_43 : decode b_D_number 43 = .ok (.iconst 3, 1) := by decide +kernel
theorem d_D_number_44 : decode b_D_number 44 = .ok (.ishl, 1) := by decide +kernel
theorem d_D_number_45 : decode b_D_number 45 = .ok (.istore 5, 2) := by decide +kernel
theorem d_D_number_47 : decode b_D_number 47 = .ok (.aload_n 0, 1) := by decide +kernel
theorem d_D_number_48 : decode b_D_number 48 = .ok (.getfield 27, 3) := by decide +kernel
theorem d_D_number_51 : decode b_D_number 51 = .ok (.iload 4, 2) := by decide +kernel
theorem d_D_number_53 : decode b_D_number 53 = .ok (.laload, 1) := by decide +kernel
theorem d_D_number_54 : decode b_D_number 54 = .ok (.iload 5, 2) := by decide +kernel
theorem d_D_number_56 : decode b_D_number 56 = .ok (.lushr, 1) := by decide +kernel
theorem d_D_number_57 : decode b_D_number 57 = .ok (.lstore 6, 2) := by decide +kernel
theorem d_D_number_59 : decode b_D_number 59 = .ok (.iload 5, 2) := by decide +kernel
theorem d_D_number_61 : decode b_D_number 61 = .ok (.bipush 8, 2) := by decide +kernel
theorem d_D_number_63 : decode b_D_number 63 = .ok (.iload_n 3, 1) := by decide +kernel
theorem d_D_number_64 : decode b_D_number 64 = .ok (.imul, 1) := by decide +kernel
theorem d_D_number_65 : decode b_D_number 65 = .ok (.iadd, 1) := by decide +kernel
theorem d_D_number_66 : decode b_D_number 66 = .ok (.bipush 64, 2) := by decide +kernel
theorem d_D_number_68 : decode b_D_number 68 = .ok (.if_icmp .le 23, 3) := by decide +kernel
theorem d_D_number_71 : decode b_D_number 71 = .ok (.lload 6, 2) := by decide +kernel
theorem d_D_number_73 : decode b_D_number 73 = .ok (.aload_n 0, 1) := by decide +kernel
theorem d_D_number_74 : decode b_D_number 74 = .ok (.getfield 27, 3) := by decide +kernel
theorem d_D_number_77 : decode b_D_number 77 = .ok (.iload 4, 2) := by decide +kernel
theorem d_D_number_79 : decode b_D_number 79 = .ok (.iconst 1, 1) := by decide +kernel
theorem d_D_number_80 : decode b_D_number 80 = .ok (.iadd, 1) := by decide +kernel
theorem d_D_number_81 : decode b_D_number 81 = .ok (.laload, 1) := by decide +kernel
theorem d_D_number_82 : decode b_D_number 82 = .ok (.bipush 64, 2) := by decide +kernel
theorem d_D_number_84 : decode b_D_number 84 = .ok (.iload 5, 2) := by decide +kernel
theorem d_D_number_86 : decode b_D_number 86 = .ok (.isub, 1) := by decide +kernel
theorem d_D_number_87 : decode b_D_number 87 = .ok (.lshl, 1) := by decide +kernel
theorem d_D_number_88 : decode b_D_number 88 = .ok (.lor, 1) := by decide +kernel
theorem d_D_number_89 : decode b_D_number 89 = .ok (.lstore 6, 2) := by decide +kernel
theorem d_D_number_91 : decode b_D_number 91 = .ok (.lload 6, 2) := by decide +kernel
theorem d_D_number_93 : decode b_D_number 93 = .ok (.ldc2_w 33, 3) := by decide +kernel
theorem d_D_number_96 : decode b_D_number 96 = .ok (.bipush 64, 2) := by decide +kernel
theorem d_D_number_98 : decode b_D_number 98 = .ok (.bipush 8, 2) := by decide +kernel
theorem d_D_number_100 : decode b_D_number 100 = .ok (.iload_n 3, 1) := by decide +kernel
theorem d_D_number_101 : decode b_D_number 101 = .ok (.imul, 1) := by decide +kernel
theorem d_D_number_102 : decode b_D_number 102 = .ok (.isub, 1) := by decide +kernel
theorem d_D_number_103 : decode b_D_number 103 = .ok (.lushr, 1) := by decide +kernel
theorem d_D_number_104 : decode b_D_number 104 = .ok (.land, 1) := by decide +kernel
theorem d_D_number_105 : decode b_D_number 105 = .ok (.lreturn, 1) := by decide +kernel
theorem d_D_move_0 : decode b_D_move 0 = .ok (.iload_n 2, 1) := by decide +kernel
theorem d_D_move_1 : decode b_D_move 1 = .ok (.iload_n 1, 1) := by decide +kernel
theorem d_D_move_2 : decode b_D_move 2 = .ok (.if_icmp .gt 72, 3) := by decide +kernel
theorem d_D_move_5 : decode b_D_move 5 = .ok (.iconst 0, 1) := by decide +kernel
theorem d_D_move_6 : decode b_D_move 6 = .ok (.istore 4, 2) := by decide +kernel
theorem d_D_move_8 : decode b_D_move 8 = .ok (.iload 4, 2) := by decide +kernel
theorem d_D_move_10 : decode b_D_move 10 = .ok (.iload_n 3, 1) := by decide +kernel
theorem d_D_move_11 : decode b_D_move 11 = .ok (.bipush 8, 2) := by decide +kernel
theorem d_D_move_13 : decode b_D_move 13 = .ok (.isub, 1) := by decide +kernel
theorem d_D_move_14 : decode b_D_move 14 = .ok (.if_icmp .gt 31, 3) := by decide +kernel
theorem d_D_move_17 : decode b_D_move 17 = .ok (.aload_n 0, 1) := by decide +kernel
theorem d_D_move_18 : decode b_D_move 18 = .ok (.iload_n 2, 1) := by decide +kernel
theorem d_D_move_19 : decode b_D_move 19 = .ok (.iload 4, 2) := by decide +kernel
theorem d_D_move_21 : decode b_D_move 21 = .ok (.iadd, 1) := by decide +kernel
theorem d_D_move_22 : decode b_D_move 22 = .ok (.i2l, 1) := by decide +kernel
theorem d_D_move_23 : decode b_D_move 23 = .ok (.bipush 8, 2) := by decide +kernel
theorem d_D_move_25 : decode b_D_move 25 = .ok (.aload_n 0, 1) := by decide +kernel
theorem d_D_move_26 : decode b_D_move 26 = .ok (.iload_n 1, 1) := by decide +kernel
theorem d_D_move_27 : decode b_D_move 27 = .ok (.iload 4, 2) := by decide +kernel
theorem d_D_move_29 : decode b_D_move 29 = .ok (.iadd, 1) := by decide +kernel
theorem d_D_move_30 : decode b_D_move 30 = .ok (.i2l, 1) := by decide +kernel
theorem d_D_move_31 : decode b_D_move 31 = .ok (.bipush 8, 2) := by decide +kernel
theorem d_D_move_33 : decode b_D_move 33 = .ok (.invokevirtual 41, 3) := by decide +kernel
theorem d_D_move_36 : decode b_D_move 36 = .ok (.invokevirtual 37, 3) := by decide +kernel
theorem d_D_move_39 : decode b_D_move 39 = .ok (.iinc 4 8, 3) := by decide +kernel
theorem d_D_move_42 : decode b_D_move 42 = .ok (.goto (-34), 3) := by decide +kernel
theorem d_D_move_45 : decode b_D_move 45 = .ok (.aload_n 0, 1) := by decide +kernel
theorem d_D_move_46 : decode b_D_move 46 = .ok (.iload_n 2, 1) := by decide +kernel
theorem d_D_move_47 : decode b_D_move 47 = .ok (.iload 4, 2) := by decide +kernel
theorem d_D_move_49 : decode b_D_move 49 = .ok (.iadd, 1) := by decide +kernel
theorem d_D_move_50 : decode b_D_move 50 = .ok (.i2l, 1) := by decide +kernel
theorem d_D_move_51 : decode b_D_move 51 = .ok (.iload_n 3, 1) := by decide +kernel
theorem d_D_move_52 : decode b_D_move 52 = .ok (.iload 4, 2) := by decide +kernel
theorem d_D_move_54 : decode b_D_move 54 = .ok (.isub, 1) := by decide +kernel
theorem d_D_move_55 : decode b_D_move 55 = .ok (.aload_n 0, 1) := by decide +kernel
theorem d_D_move_56 : decode b_D_move 56 = .ok (.iload_n 1, 1) := by decide +kernel
theorem d_D_move_57 : decode b_D_move 57 = .ok (.iload 4, 2) := by decide +kernel
theorem d_D_move_59 : decode b_D_move 59 = .ok (.iadd, 1) := by decide +kernel
theorem d_D_move_60 : decode b_D_move 60 = .ok (.i2l, 1) := by decide +kernel
theorem d_D_move_61 : decode b_D_move 61 = .ok (.iload_n 3, 1) := by decide +kernel
theorem d_D_move_62 : decode b_D_move 62 = .ok (.iload 4, 2) := by decide +kernel
theorem d_D_move_64 : decode b_D_move 64 = .ok (.isub, 1) := by decide +kernel
theorem d_D_move_65 : decode b_D_move 65 = .ok (.invokevirtual 41, 3) := by decide +kernel
theorem d_D_move_68 : decode b_D_move 68 = .ok (.invokevirtual 37, 3) := by decide +kernel
theorem d_D_move_71 : decode b_D_move 71 = .ok (.goto 63, 3) := by decide +kernel
theorem d_D_move_74 : decode b_D_move 74 = .ok (.iload_n 3, 1) := by decide +kernel
theorem d_D_move_75 : decode b_D_move 75 = .ok (.istore 4, 2) := by decide +kernel
theorem d_D_move_77 : decode b_D_move 77 = .ok (.iload 4, 2) := by decide +kernel
theorem d_D_move_79 : decode b_D_move 79 = .ok (.bipush 8, 2) := by decide +kernel
theorem d_D_move_81 : decode b_D_move 81 = .ok (.if_icmp .lt 37, 3) := by decide +kernel
theorem d_D_move_84 : decode b_D_move 84 = .ok (.aload_n 0, 1) := by decide +kernel
theorem d_D_move_85 : decode b_D_move 85 = .ok (.iload_n 2, 1) := by decide +kernel
theorem d_D_move_86 : decode b_D_move 86 = .ok (.iload 4, 2) := by decide +kernel
theorem d_D_move_88 : decode b_D_move 88 = .ok (.iadd, 1) := by decide +kernel
theorem d_D_move_89 : decode b_D_move 89 = .ok (.bipush 8, 2) := by decide +kernel
theorem d_D_move_91 : decode b_D_move 91 = .ok (.isub, 1) := by decide +kernel
theorem d_D_move_92 : decode b_D_move 92 = .ok (.i2l, 1) := by decide +kernel
theorem d_D_move_93 : decode b_D_move 93 = .ok (.bipush 8, 2) := by decide +kernel
theorem d_D_move_95 : decode b_D_move 95 = .ok (.aload_n 0, 1) := by decide +kernel
theorem d_D_move_96 : decode b_D_move 96 = .ok (.iload_n 1, 1) := by decide +kernel
theorem d_D_move_97 : decode b_D_move 97 = .ok (.iload 4, 2) := by decide +kernel
theorem d_D_move_99 : decode b_D_move 99 = .ok (.iadd, 1) := by decide +kernel
theorem d_D_move_100 : decode b_D_move 100 = .ok (.bipush 8, 2) := by decide +kernel
theorem d_D_move_102 : decode b_D_move 102 = .ok (.isub, 1) := by decide +kernel
theorem d_D_move_103 : decode b_D_move 103 = .ok (.i2l, 1) := by decide +kernel
theorem d_D_move_104 : decode b_D_move 104 = .ok (.bipush 8, 2) := by decide +kernel
theorem d_D_move_106 : decode b_D_move 106 = .ok (.invokevirtual 41, 3) := by decide +kernel
theorem d_D_move_109 : decode b_D_move 109 = .ok (.invokevirtual 37, 3) := by decide +kernel
theorem d_D_move_112 : decode b_D_move 112 = .ok (.iinc 4 (-8), 3) := by decide +kernel
theorem d_D_move_115 : decode b_D_move 115 = .ok (.goto (-38), 3) := by decide +kernel
theorem d_D_move_118 : decode b_D_move 118 = .ok (.aload_n 0, 1) := by decide +kernel
theorem d_D_move_119 : decode b_D_move 119 = .ok (.iload_n 2, 1) := by decide +kernel
theorem d_D_move_120 : decode b_D_move 120 = .ok (.i2l, 1) := by decide +kernel
theorem d_D_move_121 : decode b_D_move 121 = .ok (.iload 4, 2) := by decide +kernel
theorem d_D_move_123 : decode b_D_move 123 = .ok (.aload_n 0, 1) := by decide +kernel
theorem d_D_move_124 : decode b_D_move 124 = .ok (.iload_n 1, 1) := by decide +kernel
theorem d_D_move_125 : decode b_D_move 125 = .ok (.i2l, 1) := by decide +kernel
theorem d_D_move_126 : decode b_D_move 126 = .ok (.iload 4, 2) := by decide +kernel
theorem d_D_move_128 : decode b_D_move 128 = .ok (.invokevirtual 41, 3) := by decide +kernel
theorem d_D_move_131 : decode b_D_move 131 = .ok (.invokevirtual 37, 3) := by decide +kernel
theorem d_D_move_134 : decode b_D_move 134 = .ok (.return_, 1) := by decide +kernel
theorem d_D_blocks_0 : decode b_D_blocks 0 = .ok (.aload_n 0, 1) := by decide +kernel
theorem d_D_blocks_1 : decode b_D_blocks 1 = .ok (.getfield 18, 3) := by decide +kernel
theorem d_D_blocks_4 : decode b_D_blocks 4 = .ok (.ireturn, 1) := by decide +kernel
theorem d_D_bit_0 : decode b_D_bit 0 = .ok (.aload_n 0, 1) := by decide +kernel
theorem d_D_bit_1 : decode b_D_bit 1 = .ok (.lload_n 1, 1) := by decide +kernel
theorem d_D_bit_2 : decode b_D_bit 2 = .ok (.iload_n 3, 1) := by decide +kernel
theorem d_D_bit_3 : decode b_D_bit 3 = .ok (.bipush 8, 2) := by decide +kernel
theorem d_D_bit_5 : decode b_D_bit 5 = .ok (.idiv, 1) := by decide +kernel
theorem d_D_bit_6 : decode b_D_bit 6 = .ok (.i2l, 1) := by decide +kernel
theorem d_D_bit_7 : decode b_D_bit 7 = .ok (.ladd, 1) := by decide +kernel
theorem d_D_bit_8 : decode b_D_bit 8 = .ok (.iconst 1, 1) := by decide +kernel
theorem d_D_bit_9 : decode b_D_bit 9 = .ok (.invokevirtual 41, 3) := by decide +kernel
theorem d_D_bit_12 : decode b_D_bit 12 = .ok (.iload_n 3, 1) := by decide +kernel
theorem d_D_bit_13 : decode b_D_bit 13 = .ok (.bipush 8, 2) := by decide +kernel
theorem d_D_bit_15 : decode b_D_bit 15 = .ok (.irem, 1) := by decide +kernel
theorem d_D_bit_16 : decode b_D_bit 16 = .ok (.lshr, 1) := by decide +kernel
theorem d_D_bit_17 : decode b_D_bit 17 = .ok (.lconst 1, 1) := by decide +kernel
theorem d_D_bit_18 : decode b_D_bit 18 = .ok (.land, 1) := by decide +kernel
theorem d_D_bit_19 : decode b_D_bit 19 = .ok (.lconst 0, 1) := by decide +kernel
theorem d_D_bit_20 : decode b_D_bit 20 = .ok (.lcmp, 1) := by decide +kernel
theorem d_D_bit_21 : decode b_D_bit 21 = .ok (.ifCond .eq 7, 3) := by decide +kernel
theorem d_D_bit_24 : decode b_D_bit 24 = .ok (.iconst 1, 1) := by decide +kernel
theorem d_D_bit_25 : decode b_D_bit 25 = .ok (.goto 4, 3) := by decide +kernel
theorem d_D_bit_28 : decode b_D_bit 28 = .ok (.iconst 0, 1) := by decide +kernel
theorem d_D_bit_29 : decode b_D_bit 29 = .ok (.ireturn, 1) := by decide +kernel
theorem d_D_onesFrom_0 : decode b_D_onesFrom 0 = .ok (.iload_n 3, 1) := by decide +kernel
theorem d_D_onesFrom_1 : decode b_D_onesFrom 1 = .ok (.istore 4, 2) := by decide +kernel
theorem d_D_onesFrom_3 : decode b_D_onesFrom 3 = .ok (.iload 4, 2) := by decide +kernel
theorem d_D_onesFrom_5 : decode b_D_onesFrom 5 = .ok (.sipush 8192, 3) := by decide +kernel
theorem d_D_onesFrom_8 : decode b_D_onesFrom 8 = .ok (.if_icmp .ge 45, 3) := by decide +kernel
theorem d_D_onesFrom_11 : decode b_D_onesFrom 11 = .ok (.iload 4, 2) := by decide +kernel
theorem d_D_onesFrom_13 : decode b_D_onesFrom 13 = .ok (.bipush 64, 2) := by decide +kernel
theorem d_D_onesFrom_15 : decode b_D_onesFrom 15 = .ok (.irem, 1) := by decide +kernel
theorem d_D_onesFrom_16 : decode b_D_onesFrom 16 = .ok (.ifCond .eq 37, 3) := by decide +kernel
theorem d_D_onesFrom_19 : decode b_D_onesFrom 19 = .ok (.aload_n 0, 1) := by decide +kernel
theorem d_D_onesFrom_20 : decode b_D_onesFrom 20 = .ok (.lload_n 1, 1) := by decide +kernel
theorem d_D_onesFrom_21 : decode b_D_onesFrom 21 = .ok (.iload 4, 2) := by decide +kernel
theorem d_D_onesFrom_23 : decode b_D_onesFrom 23 = .ok (.bipush 8, 2) := by decide +kernel
theorem d_D_onesFrom_25 : decode b_D_onesFrom 25 = .ok (.idiv, 1) := by decide +kernel
theorem d_D_onesFrom_26 : decode b_D_onesFrom 26 = .ok (.i2l, 1) := by decide +kernel
theorem d_D_onesFrom_27 : decode b_D_onesFrom 27 = .ok (.ladd, 1) := by decide +kernel
theorem d_D_onesFrom_28 : decode b_D_onesFrom 28 = .ok (.iconst 1, 1) := by decide +kernel
theorem d_D_onesFrom_29 : decode b_D_onesFrom 29 = .ok (.invokevirtual 41, 3) := by decide +kernel
theorem d_D_onesFrom_32 : decode b_D_onesFrom 32 = .ok (.iload 4, 2) := by decide +kernel
theorem d_D_onesFrom_34 : decode b_D_onesFrom 34 = .ok (.bipush 8, 2) := by decide +kernel
theorem d_D_onesFrom_36 : decode b_D_onesFrom 36 = .ok (.irem, 1) := by decide +kernel
theorem d_D_onesFrom_37 : decode b_D_onesFrom 37 = .ok (.lshr, 1) := by decide +kernel
theorem d_D_onesFrom_38 : decode b_D_onesFrom 38 = .ok (.lconst 1, 1) := by decide +kernel
theorem d_D_onesFrom_39 : decode b_D_onesFrom 39 = .ok (.land, 1) := by decide +kernel
theorem d_D_onesFrom_40 : decode b_D_onesFrom 40 = .ok (.lconst 0, 1) := by decide +kernel
theorem d_D_onesFrom_41 : decode b_D_onesFrom 41 = .ok (.lcmp, 1) := by decide +kernel
theorem d_D_onesFrom_42 : decode b_D_onesFrom 42 = .ok (.ifCond .ne 5, 3) := by decide +kernel
theorem d_D_onesFrom_45 : decode b_D_onesFrom 45 = .ok (.iconst 0, 1) := by decide +kernel
theorem d_D_onesFrom_46 : decode b_D_onesFrom 46 = .ok (.ireturn, 1) := by decide +kernel
theorem d_D_onesFrom_47 : decode b_D_onesFrom 47 = .ok (.iinc 4 1, 3) := by decide +kernel
theorem d_D_onesFrom_50 : decode b_D_onesFrom 50 = .ok (.goto (-47), 3) := by decide +kernel
theorem d_D_onesFrom_53 : decode b_D_onesFrom 53 = .ok (.iload 4, 2) := by decide +kernel
theorem d_D_onesFrom_55 : decode b_D_onesFrom 55 = .ok (.sipush 8192, 3) := by decide +kernel
theorem d_D_onesFrom_58 : decode b_D_onesFrom 58 = .ok (.if_icmp .ge 32, 3) := by decide +kernel
theorem d_D_onesFrom_61 : decode b_D_onesFrom 61 = .ok (.aload_n 0, 1) := by decide +kernel
theorem d_D_onesFrom_62 : decode b_D_onesFrom 62 = .ok (.lload_n 1, 1) := by decide +kernel
theorem d_D_onesFrom_63 : decode b_D_onesFrom 63 = .ok (.iload 4, 2) := by decide +kernel
theorem d_D_onesFrom_65 : decode b_D_onesFrom 65 = .ok (.bipush 8, 2) := by decide +kernel
theorem d_D_onesFrom_67 : decode b_D_onesFrom 67 = .ok (.idiv, 1) := by decide +kernel
theorem d_D_onesFrom_68 : decode b_D_onesFrom 68 = .ok (.i2l, 1) := by decide +kernel
theorem d_D_onesFrom_69 : decode b_D_onesFrom 69 = .ok (.ladd, 1) := by decide +kernel
theorem d_D_onesFrom_70 : decode b_D_onesFrom 70 = .ok (.bipush 8, 2) := by decide +kernel
theorem d_D_onesFrom_72 : decode b_D_onesFrom 72 = .ok (.invokevirtual 41, 3) := by decide +kernel
theorem d_D_onesFrom_75 : decode b_D_onesFrom 75 = .ok (.ldc2_w 33, 3) := by decide +kernel
theorem d_D_onesFrom_78 : decode b_D_onesFrom 78 = .ok (.lcmp, 1) := by decide +kernel
theorem d_D_onesFrom_79 : decode b_D_onesFrom 79 = .ok (.ifCond .eq 5, 3) := by decide +kernel
theorem d_D_onesFrom_82 : decode b_D_onesFrom 82 = .ok (.iconst 0, 1) := by decide +kernel
theorem d_D_onesFrom_83 : decode b_D_onesFrom 83 = .ok (.ireturn, 1) := by decide +kernel
theorem d_D_onesFrom_84 : decode b_D_onesFrom 84 = .ok (.iinc 4 64, 3) := by decide +kernel
theorem d_D_onesFrom_87 : decode b_D_onesFrom 87 = .ok (.goto (-34), 3) := by decide +kernel
theorem d_D_onesFrom_90 : decode b_D_onesFrom 90 = .ok (.iconst 1, 1) := by decide +kernel
theorem d_D_onesFrom_91 : decode b_D_onesFrom 91 = .ok (.ireturn, 1) := by decide +kernel
