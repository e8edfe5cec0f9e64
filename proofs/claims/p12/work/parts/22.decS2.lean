theorem d_S_isKnown_0 : decode b_S_isKnown 0 = .ok (.iload_n 1, 1) := by decide +kernel
theorem d_S_isKnown_1 : decode b_S_isKnown 1 = .ok (.iconst 1, 1) := by decide +kernel
theorem d_S_isKnown_2 : decode b_S_isKnown 2 = .ok (.if_icmp .lt 26, 3) := by decide +kernel
theorem d_S_isKnown_5 : decode b_S_isKnown 5 = .ok (.iload_n 1, 1) := by decide +kernel
theorem d_S_isKnown_6 : decode b_S_isKnown 6 = .ok (.aload_n 0, 1) := by decide +kernel
theorem d_S_isKnown_7 : decode b_S_isKnown 7 = .ok (.getfield 27, 3) := by decide +kernel
theorem d_S_isKnown_10 : decode b_S_isKnown 10 = .ok (.arraylength, 1) := by decide +kernel
theorem d_S_isKnown_11 : decode b_S_isKnown 11 = .ok (.if_icmp .ge 17, 3) := by decide +kernel
theorem d_S_isKnown_14 : decode b_S_isKnown 14 = .ok (.aload_n 0, 1) := by decide +kernel
theorem d_S_isKnown_15 : decode b_S_isKnown 15 = .ok (.getfield 27, 3) := by decide +kernel
theorem d_S_isKnown_18 : decode b_S_isKnown 18 = .ok (.iload_n 1, 1) := by decide +kernel
theorem d_S_isKnown_19 : decode b_S_isKnown 19 = .ok (.iaload, 1) := by decide +kernel
theorem d_S_isKnown_20 : decode b_S_isKnown 20 = .ok (.iconst 1, 1) := by decide +kernel
theorem d_S_isKnown_21 : decode b_S_isKnown 21 = .ok (.if_icmp .ne 7, 3) := by decide +kernel
theorem d_S_isKnown_24 : decode b_S_isKnown 24 = .ok (.iconst 1, 1) := by decide +kernel
theorem d_S_isKnown_25 : decode b_S_isKnown 25 = .ok (.goto 4, 3) := by decide +kernel
theorem d_S_isKnown_28 : decode b_S_isKnown 28 = .ok (.iconst 0, 1) := by decide +kernel
theorem d_S_isKnown_29 : decode b_S_isKnown 29 = .ok (.ireturn, 1) := by decide +kernel
theorem d_S_itemsComeUp_0 : decode b_S_itemsComeUp 0 = .ok (.iload_n 1, 1) := by decide +kernel
theorem d_S_itemsComeUp_1 : decode b_S_itemsComeUp 1 = .ok (.ifCond .lt 12, 3) := by decide +kernel
theorem d_S_itemsComeUp_4 : decode b_S_itemsComeUp 4 = .ok (.iload_n 1, 1) := by decide +kernel
theorem d_S_itemsComeUp_5 : decode b_S_itemsComeUp 5 = .ok (.aload_n 0, 1) := by decide +kernel
theorem d_S_itemsComeUp_6 : decode b_S_itemsComeUp 6 = .ok (.getfield 30, 3) := by decide +kernel
theorem d_S_itemsComeUp_9 : decode b_S_itemsComeUp 9 = .ok (.arraylength, 1) := by decide +kernel
theorem d_S_itemsComeUp_10 : decode b_S_itemsComeUp 10 = .ok (.if_icmp .lt 5, 3) := by decide +kernel
theorem d_S_itemsComeUp_13 : decode b_S_itemsComeUp 13 = .ok (.iconst 0, 1) := by decide +kernel
theorem d_S_itemsComeUp_14 : decode b_S_itemsComeUp 14 = .ok (.ireturn, 1) := by decide +kernel
theorem d_S_itemsComeUp_15 : decode b_S_itemsComeUp 15 = .ok (.aload_n 0, 1) := by decide +kernel
theorem d_S_itemsComeUp_16 : decode b_S_itemsComeUp 16 = .ok (.getfield 30, 3) := by decide +kernel
theorem d_S_itemsComeUp_19 : decode b_S_itemsComeUp 19 = .ok (.iload_n 1, 1) := by decide +kernel
theorem d_S_itemsComeUp_20 : decode b_S_itemsComeUp 20 = .ok (.iaload, 1) := by decide +kernel
theorem d_S_itemsComeUp_21 : decode b_S_itemsComeUp 21 = .ok (.istore_n 2, 1) := by decide +kernel
theorem d_S_itemsComeUp_22 : decode b_S_itemsComeUp 22 = .ok (.aload_n 0, 1) := by decide +kernel
theorem d_S_itemsComeUp_23 : decode b_S_itemsComeUp 23 = .ok (.getfield 19, 3) := by decide +kernel
theorem d_S_itemsComeUp_26 : decode b_S_itemsComeUp 26 = .ok (.iload_n 2, 1) := by decide +kernel
theorem d_S_itemsComeUp_27 : decode b_S_itemsComeUp 27 = .ok (.invokevirtual 189, 3) := by decide +kernel
theorem d_S_itemsComeUp_30 : decode b_S_itemsComeUp 30 = .ok (.iconst 0, 1) := by decide +kernel
theorem d_S_itemsComeUp_31 : decode b_S_itemsComeUp 31 = .ok (.istore_n 3, 1) := by decide +kernel
theorem d_S_itemsComeUp_32 : decode b_S_itemsComeUp 32 = .ok (.iload_n 3, 1) := by decide +kernel
theorem d_S_itemsComeUp_33 : decode b_S_itemsComeUp 33 = .ok (.ldc 195, 2) := by decide +kernel
theorem d_S_itemsComeUp_35 : decode b_S_itemsComeUp 35 = .ok (.if_icmp .ge 93, 3) := by decide +kernel
theorem d_S_itemsComeUp_38 : decode b_S_itemsComeUp 38 = .ok (.aload_n 0, 1) := by decide +kernel
theorem d_S_itemsComeUp_39 : decode b_S_itemsComeUp 39 = .ok (.getfield 19, 3) := by decide +kernel
theorem d_S_itemsComeUp_42 : decode b_S_itemsComeUp 42 = .ok (.invokevirtual 196, 3) := by decide +kernel
theorem d_S_itemsComeUp_45 : decode b_S_itemsComeUp 45 = .ok (.ifCond .eq 83, 3) := by decide +kernel
theorem d_S_itemsComeUp_48 : decode b_S_itemsComeUp 48 = .ok (.aload_n 0, 1) := by decide +kernel
theorem d_S_itemsComeUp_49 : decode b_S_itemsComeUp 49 = .ok (.getfield 19, 3) := by decide +kernel
theorem d_S_itemsComeUp_52 : decode b_S_itemsComeUp 52 = .ok (.invokevirtual 233, 3) := by decide +kernel
theorem d_S_itemsComeUp_55 : decode b_S_itemsComeUp 55 = .ok (.ifCond .eq 60, 3) := by decide +kernel
theorem d_S_itemsComeUp_58 : decode b_S_itemsComeUp 58 = .ok (.aload_n 0, 1) := by decide +kernel
theorem d_S_itemsComeUp_59 : decode b_S_itemsComeUp 59 = .ok (.getfield 19, 3) := by decide +kernel
theorem d_S_itemsComeUp_62 : decode b_S_itemsComeUp 62 = .ok (.invokevirtual 220, 3) := by decide +kernel
theorem d_S_itemsComeUp_65 : decode b_S_itemsComeUp 65 = .ok (.istore 4, 2) := by decide +kernel
theorem d_S_itemsComeUp_67 : decode b_S_itemsComeUp 67 = .ok (.aload_n 0, 1) := by decide +kernel
theorem d_S_itemsComeUp_68 : decode b_S_itemsComeUp 68 = .ok (.iload 4, 2) := by decide +kernel
theorem d_S_itemsComeUp_70 : decode b_S_itemsComeUp 70 = .ok (.invokevirtual 236, 3) := by decide +kernel
theorem d_S_itemsComeUp_73 : decode b_S_itemsComeUp 73 = .ok (.ifCond .ne 12, 3) := by decide +kernel
theorem d_S_itemsComeUp_76 : decode b_S_itemsComeUp 76 = .ok (.aload_n 0, 1) := by decide +kernel
theorem d_S_itemsComeUp_77 : decode b_S_itemsComeUp 77 = .ok (.iload 4, 2) := by decide +kernel
theorem d_S_itemsComeUp_79 : decode b_S_itemsComeUp 79 = .ok (.invokevirtual 143, 3) := by decide +kernel
theorem d_S_itemsComeUp_82 : decode b_S_itemsComeUp 82 = .ok (.ifCond .ne 5, 3) := by decide +kernel
theorem d_S_itemsComeUp_85 : decode b_S_itemsComeUp 85 = .ok (.iconst 0, 1) := by decide +kernel
theorem d_S_itemsComeUp_86 : decode b_S_itemsComeUp 86 = .ok (.ireturn, 1) := by decide +kernel
theorem d_S_itemsComeUp_87 : decode b_S_itemsComeUp 87 = .ok (.aload_n 0, 1) := by decide +kernel
theorem d_S_itemsComeUp_88 : decode b_S_itemsComeUp 88 = .ok (.iload 4, 2) := by decide +kernel
theorem d_S_itemsComeUp_90 : decode b_S_itemsComeUp 90 = .ok (.iload_n 2, 1) := by decide +kernel
theorem d_S_itemsComeUp_91 : decode b_S_itemsComeUp 91 = .ok (.invokevirtual 146, 3) := by decide +kernel
theorem d_S_itemsComeUp_94 : decode b_S_itemsComeUp 94 = .ok (.aload_n 0, 1) := by decide +kernel
theorem d_S_itemsComeUp_95 : decode b_S_itemsComeUp 95 = .ok (.getfield 19, 3) := by decide +kernel
theorem d_S_itemsComeUp_98 : decode b_S_itemsComeUp 98 = .ok (.invokevirtual 226, 3) := by decide +kernel
theorem d_S_itemsComeUp_101 : decode b_S_itemsComeUp 101 = .ok (.iconst 2, 1) := by decide +kernel
theorem d_S_itemsComeUp_102 : decode b_S_itemsComeUp 102 = .ok (.if_icmp .ne 13, 3) := by decide +kernel
theorem d_S_itemsComeUp_105 : decode b_S_itemsComeUp 105 = .ok (.aload_n 0, 1) := by decide +kernel
theorem d_S_itemsComeUp_106 : decode b_S_itemsComeUp 106 = .ok (.getfield 36, 3) := by decide +kernel
theorem d_S_itemsComeUp_109 : decode b_S_itemsComeUp 109 = .ok (.iload_n 1, 1) := by decide +kernel
theorem d_S_itemsComeUp_110 : decode b_S_itemsComeUp 110 = .ok (.dup2, 1) := by decide +kernel
theorem d_S_itemsComeUp_111 : decode b_S_itemsComeUp 111 = .ok (.iaload, 1) := by decide +kernel
theorem d_S_itemsComeUp_112 : decode b_S_itemsComeUp 112 = .ok (.iconst 1, 1) := by decide +kernel
theorem d_S_itemsComeUp_113 : decode b_S_itemsComeUp 113 = .ok (.iadd, 1) := by decide +kernel
theorem d_S_itemsComeUp_114 : decode b_S_itemsComeUp 114 = .ok (.iastore, 1) := by decide +kernel
theorem d_S_itemsComeUp_115 : decode b_S_itemsComeUp 115 = .ok (.aload_n 0, 1) := by decide +kernel
theorem d_S_itemsComeUp_116 : decode b_S_itemsComeUp 116 = .ok (.getfield 19, 3) := by decide +kernel
theorem d_S_itemsComeUp_119 : decode b_S_itemsComeUp 119 = .ok (.invokevirtual 208, 3) := by decide +kernel
theorem d_S_itemsComeUp_122 : decode b_S_itemsComeUp 122 = .ok (.iinc 3 1, 3) := by decide +kernel
theorem d_S_itemsComeUp_125 : decode b_S_itemsComeUp 125 = .ok (.goto (-93), 3) := by decide +kernel
theorem d_S_itemsComeUp_128 : decode b_S_itemsComeUp 128 = .ok (.iconst 1, 1) := by decide +kernel
theorem d_S_itemsComeUp_129 : decode b_S_itemsComeUp 129 = .ok (.ireturn, 1) := by decide +kernel
theorem d_S_treeFault_0 : decode b_S_treeFault 0 = .ok (.aload_n 0, 1) := by decide +kernel
theorem d_S_treeFault_1 : decode b_S_treeFault 1 = .ok (.getfield 27, 3) := by decide +kernel
theorem d_S_treeFault_4 : decode b_S_treeFault 4 = .ok (.iconst 0, 1) := by decide +kernel
theorem d_S_treeFault_5 : decode b_S_treeFault 5 = .ok (.invokestatic 108, 3) := by decide +kernel
theorem d_S_treeFault_8 : decode b_S_treeFault 8 = .ok (.aload_n 0, 1) := by decide +kernel
theorem d_S_treeFault_9 : decode b_S_treeFault 9 = .ok (.iconst 0, 1) := by decide +kernel
theorem d_S_treeFault_10 : decode b_S_treeFault 10 = .ok (.putfield 134, 3) := by decide +kernel
theorem d_S_treeFault_13 : decode b_S_treeFault 13 = .ok (.aload_n 0, 1) := by decide +kernel
theorem d_S_treeFault_14 : decode b_S_treeFault 14 = .ok (.getfield 15, 3) := by decide +kernel
theorem d_S_treeFault_17 : decode b_S_treeFault 17 = .ok (.iconst 2, 1) := by decide +kernel
theorem d_S_treeFault_18 : decode b_S_treeFault 18 = .ok (.invokevirtual 137, 3) := by decide +kernel
theorem d_S_treeFault_21 : decode b_S_treeFault 21 = .ok (.ifCond .eq 25, 3) := by decide +kernel
theorem d_S_treeFault_24 : decode b_S_treeFault 24 = .ok (.aload_n 0, 1) := by decide +kernel
theorem d_S_treeFault_25 : decode b_S_treeFault 25 = .ok (.getfield 15, 3) := by decide +kernel
theorem d_S_treeFault_28 : decode b_S_treeFault 28 = .ok (.iconst 2, 1) := by decide +kernel
theorem d_S_treeFault_29 : decode b_S_treeFault 29 = .ok (.invokevirtual 140, 3) := by decide +kernel
theorem d_S_treeFault_32 : decode b_S_treeFault 32 = .ok (.sipush 16384, 3) := by decide +kernel
theorem d_S_treeFault_35 : decode b_S_treeFault 35 = .ok (.if_icmp .ne 11, 3) := by decide +kernel
theorem d_S_treeFault_38 : decode b_S_treeFault 38 = .ok (.aload_n 0, 1) := by decide +kernel
theorem d_S_treeFault_39 : decode b_S_treeFault 39 = .ok (.iconst 2, 1) := by decide +kernel
theorem d_S_treeFault_40 : decode b_S_treeFault 40 = .ok (.invokevirtual 143, 3) := by decide +kernel
theorem d_S_treeFault_43 : decode b_S_treeFault 43 = .ok (.ifCond .ne 5, 3) := by decide +kernel
theorem d_S_treeFault_46 : decode b_S_treeFault 46 = .ok (.iconst 4, 1) := by decide +kernel
theorem d_S_treeFault_47 : decode b_S_treeFault 47 = .ok (.ireturn, 1) := by decide +kernel
theorem d_S_treeFault_48 : decode b_S_treeFault 48 = .ok (.aload_n 0, 1) := by decide +kernel
theorem d_S_treeFault_49 : decode b_S_treeFault 49 = .ok (.iconst 2, 1) := by decide +kernel
theorem d_S_treeFault_50 : decode b_S_treeFault 50 = .ok (.iconst 2, 1) := by decide +kernel
theorem d_S_treeFault_51 : decode b_S_treeFault 51 = .ok (.invokevirtual 146, 3) := by decide +kernel
theorem d_S_treeFault_54 : decode b_S_treeFault 54 = .ok (.iconst 0, 1) := by decide +kernel
theorem d_S_treeFault_55 : decode b_S_treeFault 55 = .ok (.istore_n 1, 1) := by decide +kernel
theorem d_S_treeFault_56 : decode b_S_treeFault 56 = .ok (.iload_n 1, 1) := by decide +kernel
theorem d_S_treeFault_57 : decode b_S_treeFault 57 = .ok (.aload_n 0, 1) := by decide +kernel
theorem d_S_treeFault_58 : decode b_S_treeFault 58 = .ok (.getfield 134, 3) := by decide +kernel
theorem d_S_treeFault_61 : decode b_S_treeFault 61 = .ok (.if_icmp .ge 68, 3) := by decide +kernel
theorem d_S_treeFault_64 : decode b_S_treeFault 64 = .ok (.iload_n 1, 1) := by decide +kernel
theorem d_S_treeFault_65 : decode b_S_treeFault 65 = .ok (.aload_n 0, 1) := by decide +kernel
theorem d_S_treeFault_66 : decode b_S_treeFault 66 = .ok (.getfield 30, 3) := by decide +kernel
theorem d_S_treeFault_69 : decode b_S_treeFault 69 = .ok (.arraylength, 1) := by decide +kernel
theorem d_S_treeFault_70 : decode b_S_treeFault 70 = .ok (.if_icmp .ge 59, 3) := by decide +kernel
theorem d_S_treeFault_73 : decode b_S_treeFault 73 = .ok (.aload_n 0, 1) := by decide +kernel
theorem d_S_treeFault_74 : decode b_S_treeFault 74 = .ok (.getfield 15, 3) := by decide +kernel
theorem d_S_treeFault_77 : decode b_S_treeFault 77 = .ok (.aload_n 0, 1) := by decide +kernel
theorem d_S_treeFault_78 : decode b_S_treeFault 78 = .ok (.getfield 30, 3) := by decide +kernel
theorem d_S_treeFault_81 : decode b_S_treeFault 81 = .ok (.iload_n 1, 1) := by decide +kernel
theorem d_S_treeFault_82 : decode b_S_treeFault 82 = .ok (.iaload, 1) := by decide +kernel
theorem d_S_treeFault_83 : decode b_S_treeFault 83 = .ok (.invokevirtual 140, 3) := by decide +kernel
theorem d_S_treeFault_86 : decode b_S_treeFault 86 = .ok (.sipush 16384, 3) := by decide +kernel
theorem d_S_treeFault_89 : decode b_S_treeFault 89 = .ok (.if_icmp .ne 34, 3) := by decide +kernel
theorem d_S_treeFault_92 : decode b_S_treeFault 92 = .ok (.aload_n 0, 1) := by decide +kernel
theorem d_S_treeFault_93 : decode b_S_treeFault 93 = .ok (.aload_n 0, 1) := by decide +kernel
theorem d_S_treeFault_94 : decode b_S_treeFault 94 = .ok (.getfield 30, 3) := by decide +kernel
theorem d_S_treeFault_97 : decode b_S_treeFault 97 = .ok (.iload_n 1, 1) := by decide +kernel
theorem d_S_treeFault_98 : decode b_S_treeFault 98 = .ok (.iaload, 1) := by decide +kernel
theorem d_S_treeFault_99 : decode b_S_treeFault 99 = .ok (.aload_n 0, 1) := by decide +kernel
theorem d_S_treeFault_100 : decode b_S_treeFault 100 = .ok (.getfield 33, 3) := by decide +kernel
theorem d_S_treeFault_103 : decode b_S_treeFault 103 = .ok (.iload_n 1, 1) := by decide +kernel
theorem d_S_treeFault_104 : decode b_S_treeFault 104 = .ok (.iaload, 1) := by decide +kernel
theorem d_S_treeFault_105 : decode b_S_treeFault 105 = .ok (.invokevirtual 149, 3) := by decide +kernel
theorem d_S_treeFault_108 : decode b_S_treeFault 108 = .ok (.ifCond .ne 5, 3) := by decide +kernel
theorem d_S_treeFault_111 : decode b_S_treeFault 111 = .ok (.iconst 5, 1) := by decide +kernel
theorem d_S_treeFault_112 : decode b_S_treeFault 112 = .ok (.ireturn, 1) := by decide +kernel
theorem d_S_treeFault_113 : decode b_S_treeFault 113 = .ok (.aload_n 0, 1) := by decide +kernel
theorem d_S_treeFault_114 : decode b_S_treeFault 114 = .ok (.iload_n 1, 1) := by decide +kernel
theorem d_S_treeFault_115 : decode b_S_treeFault 115 = .ok (.invokevirtual 153, 3) := by decide +kernel
theorem d_S_treeFault_118 : decode b_S_treeFault 118 = .ok (.ifCond .ne 5, 3) := by decide +kernel
theorem d_S_treeFault_121 : decode b_S_treeFault 121 = .ok (.iconst 4, 1) := by decide +kernel
theorem d_S_treeFault_122 : decode b_S_treeFault 122 = .ok (.ireturn, 1) := by decide +kernel
theorem d_S_treeFault_123 : decode b_S_treeFault 123 = .ok (.iinc 1 1, 3) := by decide +kernel
theorem d_S_treeFault_126 : decode b_S_treeFault 126 = .ok (.goto (-70), 3) := by decide +kernel
theorem d_S_treeFault_129 : decode b_S_treeFault 129 = .ok (.iconst 0, 1) := by decide +kernel
theorem d_S_treeFault_130 : decode b_S_treeFault 130 = .ok (.ireturn, 1) := by decide +kernel
theorem d_S_linksStand_0 : decode b_S_linksStand 0 = .ok (.iconst 0, 1) := by decide +kernel
theorem d_S_linksStand_1 : decode b_S_linksStand 1 = .ok (.istore_n 1, 1) := by decide +kernel
theorem d_S_linksStand_2 : decode b_S_linksStand 2 = .ok (.iload_n 1, 1) := by decide +kernel
theorem d_S_linksStand_3 : decode b_S_linksStand 3 = .ok (.aload_n 0, 1) := by decide +kernel
theorem d_S_linksStand_4 : decode b_S_linksStand 4 = .ok (.getfield 134, 3) := by decide +kernel
theorem d_S_linksStand_7 : decode b_S_linksStand 7 = .ok (.if_icmp .ge 74, 3) := by decide +kernel
theorem d_S_linksStand_10 : decode b_S_linksStand 10 = .ok (.iload_n 1, 1) := by decide +kernel
theorem d_S_linksStand_11 : decode b_S_linksStand 11 = .ok (.aload_n 0, 1) := by decide +kernel
theorem d_S_linksStand_12 : decode b_S_linksStand 12 = .ok (.getfield 30, 3) := by decide +kernel
theorem d_S_linksStand_15 : decode b_S_linksStand 15 = .ok (.arraylength, 1) := by decide +kernel
theorem d_S_linksStand_16 : decode b_S_linksStand 16 = .ok (.if_icmp .ge 65, 3) := by decide +kernel
theorem d_S_linksStand_19 : decode b_S_linksStand 19 = .ok (.aload_n 0, 1) := by decide +kernel
theorem d_S_linksStand_20 : decode b_S_linksStand 20 = .ok (.getfield 15, 3) := by decide +kernel
theorem d_S_linksStand_23 : decode b_S_linksStand 23 = .ok (.aload_n 0, 1) := by decide +kernel
theorem d_S_linksStand_24 : decode b_S_linksStand 24 = .ok (.getfield 30, 3) := by decide +kernel
theorem d_S_linksStand_27 : decode b_S_linksStand 27 = .ok (.iload_n 1, 1) := by decide +kernel
theorem d_S_linksStand_28 : decode b_S_linksStand 28 = .ok (.iaload, 1) := by decide +kernel
theorem d_S_linksStand_29 : decode b_S_linksStand 29 = .ok (.invokevirtual 140, 3) := by decide +kernel
theorem d_S_linksStand_32 : decode b_S_linksStand 32 = .ok (.sipush 16384, 3) := by decide +kernel
theorem d_S_linksStand_35 : decode b_S_linksStand 35 = .ok (.if_icmp .ne 14, 3) := by decide +kernel
theorem d_S_linksStand_38 : decode b_S_linksStand 38 = .ok (.iconst 2, 1) := by decide +kernel
theorem d_S_linksStand_39 : decode b_S_linksStand 39 = .ok (.aload_n 0, 1) := by decide +kernel
theorem d_S_linksStand_40 : decode b_S_linksStand 40 = .ok (.getfield 36, 3) := by decide +kernel
theorem d_S_linksStand_43 : decode b_S_linksStand 43 = .ok (.iload_n 1, 1) := by decide +kernel
theorem d_S_linksStand_44 : decode b_S_linksStand 44 = .ok (.iaload, 1) := by decide +kernel
theorem d_S_linksStand_45 : decode b_S_linksStand 45 = .ok (.iadd, 1) := by decide +kernel
theorem d_S_linksStand_46 : decode b_S_linksStand 46 = .ok (.goto 4, 3) := by decide +kernel
theorem d_S_linksStand_49 : decode b_S_linksStand 49 = .ok (.iconst 1, 1) := by decide +kernel
theorem d_S_linksStand_50 : decode b_S_linksStand 50 = .ok (.istore_n 2, 1) := by decide +kernel
theorem d_S_linksStand_51 : decode b_S_linksStand 51 = .ok (.aload_n 0, 1) := by decide +kernel
theorem d_S_linksStand_52 : decode b_S_linksStand 52 = .ok (.getfield 15, 3) := by decide +kernel
theorem d_S_linksStand_55 : decode b_S_linksStand 55 = .ok (.aload_n 0, 1) := by decide +kernel
theorem d_S_linksStand_56 : decode b_S_linksStand 56 = .ok (.getfield 30, 3) := by decide +kernel
theorem d_S_linksStand_59 : decode b_S_linksStand 59 = .ok (.iload_n 1, 1) := by decide +kernel
theorem d_S_linksStand_60 : decode b_S_linksStand 60 = .ok (.iaload, 1) := by decide +kernel
theorem d_S_linksStand_61 : decode b_S_linksStand 61 = .ok (.bipush 26, 2) := by decide +kernel
theorem d_S_linksStand_63 : decode b_S_linksStand 63 = .ok (.iconst 2, 1) := by decide +kernel
theorem d_S_linksStand_64 : decode b_S_linksStand 64 = .ok (.invokevirtual 164, 3) := by decide +kernel
theorem d_S_linksStand_67 : decode b_S_linksStand 67 = .ok (.iload_n 2, 1) := by decide +kernel
theorem d_S_linksStand_68 : decode b_S_linksStand 68 = .ok (.i2l, 1) := by decide +kernel
theorem d_S_linksStand_69 : decode b_S_linksStand 69 = .ok (.lcmp, 1) := by decide +kernel
theorem d_S_linksStand_70 : decode b_S_linksStand 70 = .ok (.ifCond .eq 5, 3) := by decide +kernel
theorem d_S_linksStand_73 : decode b_S_linksStand 73 = .ok (.iconst 0, 1) := by decide +kernel
theorem d_S_linksStand_74 : decode b_S_linksStand 74 = .ok (.ireturn, 1) := by decide +kernel
theorem d_S_linksStand_75 : decode b_S_linksStand 75 = .ok (.iinc 1 1, 3) := by decide +kernel
theorem d_S_linksStand_78 : decode b_S_linksStand 78 = .ok (.goto (-76), 3) := by decide +kernel
theorem d_S_linksStand_81 : decode b_S_linksStand 81 = .ok (.iconst 1, 1) := by decide +kernel
theorem d_S_linksStand_82 : decode b_S_linksStand 82 = .ok (.ireturn, 1) := by decide +kernel
theorem d_S_isBlank_0 : decode b_S_isBlank 0 = .ok (.aload_n 0, 1) := by decide +kernel
theorem d_S_isBlank_1 : decode b_S_isBlank 1 = .ok (.getfield 15, 3) := by decide +kernel
theorem d_S_isBlank_4 : decode b_S_isBlank 4 = .ok (.iload_n 1, 1) := by decide +kernel
theorem d_S_isBlank_5 : decode b_S_isBlank 5 = .ok (.invokevirtual 178, 3) := by decide +kernel
theorem d_S_isBlank_8 : decode b_S_isBlank 8 = .ok (.lstore_n 2, 1) := by decide +kernel
theorem d_S_isBlank_9 : decode b_S_isBlank 9 = .ok (.iconst 0, 1) := by decide +kernel
theorem d_S_isBlank_10 : decode b_S_isBlank 10 = .ok (.istore 4, 2) := by decide +kernel
theorem d_S_isBlank_12 : decode b_S_isBlank 12 = .ok (.iload 4, 2) := by decide +kernel
theorem d_S_isBlank_14 : decode b_S_isBlank 14 = .ok (.sipush 128, 3) := by decide +kernel
theorem d_S_isBlank_17 : decode b_S_isBlank 17 = .ok (.if_icmp .ge 30, 3) := by decide +kernel
theorem d_S_isBlank_20 : decode b_S_isBlank 20 = .ok (.aload_n 0, 1) := by decide +kernel
theorem d_S_isBlank_21 : decode b_S_isBlank 21 = .ok (.getfield 9, 3) := by decide +kernel
theorem d_S_isBlank_24 : decode b_S_isBlank 24 = .ok (.lload_n 2, 1) := by decide +kernel
theorem d_S_isBlank_25 : decode b_S_isBlank 25 = .ok (.iload 4, 2) := by decide +kernel
theorem d_S_isBlank_27 : decode b_S_isBlank 27 = .ok (.i2l, 1) := by decide +kernel
theorem d_S_isBlank_28 : decode b_S_isBlank 28 = .ok (.ladd, 1) := by decide +kernel
theorem d_S_isBlank_29 : decode b_S_isBlank 29 = .ok (.bipush 8, 2) := by decide +kernel
theorem d_S_isBlank_31 : decode b_S_isBlank 31 = .ok (.invokevirtual 88, 3) := by decide +kernel
theorem d_S_isBlank_34 : decode b_S_isBlank 34 = .ok (.lconst 0, 1) := by decide +kernel
theorem d_S_isBlank_35 : decode b_S_isBlank 35 = .ok (.lcmp, 1) := by decide +kernel
theorem d_S_isBlank_36 : decode b_S_isBlank 36 = .ok (.ifCond .eq 5, 3) := by decide +kernel
theorem d_S_isBlank_39 : decode b_S_isBlank 39 = .ok (.iconst 0, 1) := by decide +kernel
theorem d_S_isBlank_40 : decode b_S_isBlank 40 = .ok (.ireturn, 1) := by decide +kernel
theorem d_S_isBlank_41 : decode b_S_isBlank 41 = .ok (.iinc 4 8, 3) := by decide +kernel
theorem d_S_isBlank_44 : decode b_S_isBlank 44 = .ok (.goto (-32), 3) := by decide +kernel
theorem d_S_isBlank_47 : decode b_S_isBlank 47 = .ok (.iconst 1, 1) := by decide +kernel
theorem d_S_isBlank_48 : decode b_S_isBlank 48 = .ok (.ireturn, 1) := by decide +kernel
theorem d_S_inodesStand_0 : decode b_S_inodesStand 0 = .ok (.iconst 1, 1) := by decide +kernel
theorem d_S_inodesStand_1 : decode b_S_inodesStand 1 = .ok (.istore_n 1, 1) := by decide +kernel
theorem d_S_inodesStand_2 : decode b_S_inodesStand 2 = .ok (.iload_n 1, 1) := by decide +kernel
theorem d_S_inodesStand_3 : decode b_S_inodesStand 3 = .ok (.aload_n 0, 1) := by decide +kernel
theorem d_S_inodesStand_4 : decode b_S_inodesStand 4 = .ok (.getfield 15, 3) := by decide +kernel
theorem d_S_inodesStand_7 : decode b_S_inodesStand 7 = .ok (.invokevirtual 65, 3) := by decide +kernel
theorem d_S_inodesStand_10 : decode b_S_inodesStand 10 = .ok (.if_icmp .gt 57, 3) := by decide +kernel
theorem d_S_inodesStand_13 : decode b_S_inodesStand 13 = .ok (.aload_n 0, 1) := by decide +kernel
theorem d_S_inodesStand_14 : decode b_S_inodesStand 14 = .ok (.iload_n 1, 1) := by decide +kernel
theorem d_S_inodesStand_15 : decode b_S_inodesStand 15 = .ok (.invokevirtual 236, 3) := by decide +kernel
theorem d_S_inodesStand_18 : decode b_S_inodesStand 18 = .ok (.istore_n 2, 1) := by decide +kernel
theorem d_S_inodesStand_19 : decode b_S_inodesStand 19 = .ok (.aload_n 0, 1) := by decide +kernel
theorem d_S_inodesStand_20 : decode b_S_inodesStand 20 = .ok (.getfield 15, 3) := by decide +kernel
theorem d_S_inodesStand_23 : decode b_S_inodesStand 23 = .ok (.iload_n 1, 1) := by decide +kernel
theorem d_S_inodesStand_24 : decode b_S_inodesStand 24 = .ok (.invokevirtual 137, 3) := by decide +kernel
theorem d_S_inodesStand_27 : decode b_S_inodesStand 27 = .ok (.iload_n 2, 1) := by decide +kernel
theorem d_S_inodesStand_28 : decode b_S_inodesStand 28 = .ok (.ifCond .ne 9, 3) := by decide +kernel
theorem d_S_inodesStand_31 : decode b_S_inodesStand 31 = .ok (.iload_n 1, 1) := by decide +kernel
theorem d_S_inodesStand_32 : decode b_S_inodesStand 32 = .ok (.bipush 11, 2) := by decide +kernel
theorem d_S_inodesStand_34 : decode b_S_inodesStand 34 = .ok (.if_icmp .gt 7, 3) := by decide +kernel
theorem d_S_inodesStand_37 : decode b_S_inodesStand 37 = .ok (.iconst 1, 1) := by decide +kernel
theorem d_S_inodesStand_38 : decode b_S_inodesStand 38 = .ok (.goto 4, 3) := by decide +kernel
theorem d_S_inodesStand_41 : decode b_S_inodesStand 41 = .ok (.iconst 0, 1) := by decide +kernel
theorem d_S_inodesStand_42 : decode b_S_inodesStand 42 = .ok (.if_icmp .eq 5, 3) := by decide +kernel
theorem d_S_inodesStand_45 : decode b_S_inodesStand 45 = .ok (.iconst 0, 1) := by decide +kernel
theorem d_S_inodesStand_46 : decode b_S_inodesStand 46 = .ok (.ireturn, 1) := by decide +kernel
theorem d_S_inodesStand_47 : decode b_S_inodesStand 47 = .ok (.iload_n 2, 1) := by decide +kernel
theorem d_S_inodesStand_48 : decode b_S_inodesStand 48 = .ok (.ifCond .ne 13, 3) := by decide +kernel
theorem d_S_inodesStand_51 : decode b_S_inodesStand 51 = .ok (.aload_n 0, 1) := by decide +kernel
theorem d_S_inodesStand_52 : decode b_S_inodesStand 52 = .ok (.iload_n 1, 1) := by decide +kernel
theorem d_S_inodesStand_53 : decode b_S_inodesStand 53 = .ok (.invokevirtual 248, 3) := by decide +kernel
theorem d_S_inodesStand_56 : decode b_S_inodesStand 56 = .ok (.ifCond .ne 5, 3) := by decide +kernel
theorem d_S_inodesStand_59 : decode b_S_inodesStand 59 = .ok (.iconst 0, 1) := by decide +kernel
theorem d_S_inodesStand_60 : decode b_S_inodesStand 60 = .ok (.ireturn, 1) := by decide +kernel
theorem d_S_inodesStand_61 : decode b_S_inodesStand 61 = .ok (.iinc 1 1, 3) := by decide +kernel
theorem d_S_inodesStand_64 : decode b_S_inodesStand 64 = .ok (.goto (-62), 3) := by decide +kernel
theorem d_S_inodesStand_67 : decode b_S_inodesStand 67 = .ok (.iconst 1, 1) := by decide +kernel
theorem d_S_inodesStand_68 : decode b_S_inodesStand 68 = .ok (.ireturn, 1) := by decide +kernel
theorem d_S_isTaken_0 : decode b_S_isTaken 0 = .ok (.iload_n 1, 1) := by decide +kernel
theorem d_S_isTaken_1 : decode b_S_isTaken 1 = .ok (.ifCond .lt 25, 3) := by decide +kernel
theorem d_S_isTaken_4 : decode b_S_isTaken 4 = .ok (.iload_n 1, 1) := by decide +kernel
theorem d_S_isTaken_5 : decode b_S_isTaken 5 = .ok (.aload_n 0, 1) := by decide +kernel
theorem d_S_isTaken_6 : decode b_S_isTaken 6 = .ok (.getfield 23, 3) := by decide +kernel
theorem d_S_isTaken_9 : decode b_S_isTaken 9 = .ok (.arraylength, 1) := by decide +kernel
theorem d_S_isTaken_10 : decode b_S_isTaken 10 = .ok (.if_icmp .ge 16, 3) := by decide +kernel
theorem d_S_isTaken_13 : decode b_S_isTaken 13 = .ok (.aload_n 0, 1) := by decide +kernel
theorem d_S_isTaken_14 : decode b_S_isTaken 14 = .ok (.getfield 23, 3) := by decide +kernel
theorem d_S_isTaken_17 : decode b_S_isTaken 17 = .ok (.iload_n 1, 1) := by decide +kernel
theorem d_S_isTaken_18 : decode b_S_isTaken 18 = .ok (.iaload, 1) := by decide +kernel
theorem d_S_isTaken_19 : decode b_S_isTaken 19 = .ok (.ifCond .eq 7, 3) := by decide +kernel
theorem d_S_isTaken_22 : decode b_S_isTaken 22 = .ok (.iconst 1, 1) := by decide +kernel
theorem d_S_isTaken_23 : decode b_S_isTaken 23 = .ok (.goto 4, 3) := by decide +kernel
theorem d_S_isTaken_26 : decode b_S_isTaken 26 = .ok (.iconst 0, 1) := by decide +kernel
theorem d_S_isTaken_27 : decode b_S_isTaken 27 = .ok (.ireturn, 1) := by decide +kernel
theorem d_S_blockMapStands_0 : decode b_S_blockMapStands 0 = .ok (.aload_n 0, 1) := by decide +kernel
theorem d_S_blockMapStands_1 : decode b_S_blockMapStands 1 = .ok (.getfield 15, 3) := by decide +kernel
theorem d_S_blockMapStands_4 : decode b_S_blockMapStands 4 = .ok (.iload_n 1, 1) := by decide +kernel
theorem d_S_blockMapStands_5 : decode b_S_blockMapStands 5 = .ok (.invokevirtual 95, 3) := by decide +kernel
theorem d_S_blockMapStands_8 : decode b_S_blockMapStands 8 = .ok (.istore_n 2, 1) := by decide +kernel
theorem d_S_blockMapStands_9 : decode b_S_blockMapStands 9 = .ok (.iconst 0, 1) := by decide +kernel
theorem d_S_blockMapStands_10 : decode b_S_blockMapStands 10 = .ok (.istore_n 3, 1) := by decide +kernel
theorem d_S_blockMapStands_11 : decode b_S_blockMapStands 11 = .ok (.iload_n 3, 1) := by decide +kernel
theorem d_S_blockMapStands_12 : decode b_S_blockMapStands 12 = .ok (.iload_n 2, 1) := by decide +kernel
theorem d_S_blockMapStands_13 : decode b_S_blockMapStands 13 = .ok (.if_icmp .ge 44, 3) := by decide +kernel
theorem d_S_blockMapStands_16 : decode b_S_blockMapStands 16 = .ok (.aload_n 0, 1) := by decide +kernel
theorem d_S_blockMapStands_17 : decode b_S_blockMapStands 17 = .ok (.getfield 9, 3) := by decide +kernel
theorem d_S_blockMapStands_20 : decode b_S_blockMapStands 20 = .ok (.aload_n 0, 1) := by decide +kernel
theorem d_S_blockMapStands_21 : decode b_S_blockMapStands 21 = .ok (.getfield 15, 3) := by decide +kernel
theorem d_S_blockMapStands_24 : decode b_S_blockMapStands 24 = .ok (.iload_n 1, 1) := by decide +kernel
theorem d_S_blockMapStands_25 : decode b_S_blockMapStands 25 = .ok (.invokevirtual 270, 3) := by decide +kernel
theorem d_S_blockMapStands_28 : decode b_S_blockMapStands 28 = .ok (.iload_n 3, 1) := by decide +kernel
theorem d_S_blockMapStands_29 : decode b_S_blockMapStands 29 = .ok (.invokevirtual 273, 3) := by decide +kernel
theorem d_S_blockMapStands_32 : decode b_S_blockMapStands 32 = .ok (.aload_n 0, 1) := by decide +kernel
theorem d_S_blockMapStands_33 : decode b_S_blockMapStands 33 = .ok (.aload_n 0, 1) := by decide +kernel
theorem d_S_blockMapStands_34 : decode b_S_blockMapStands 34 = .ok (.getfield 15, 3) := by decide +kernel
theorem d_S_blockMapStands_37 : decode b_S_blockMapStands 37 = .ok (.iload_n 1, 1) := by decide +kernel
theorem d_S_blockMapStands_38 : decode b_S_blockMapStands 38 = .ok (.invokevirtual 105, 3) := by decide +kernel
theorem d_S_blockMapStands_41 : decode b_S_blockMapStands 41 = .ok (.iload_n 3, 1) := by decide +kernel
theorem d_S_blockMapStands_42 : decode b_S_blockMapStands 42 = .ok (.iadd, 1) := by decide +kernel
theorem d_S_blockMapStands_43 : decode b_S_blockMapStands 43 = .ok (.invokevirtual 276, 3) := by decide +kernel
theorem d_S_blockMapStands_46 : decode b_S_blockMapStands 46 = .ok (.if_icmp .eq 5, 3) := by decide +kernel
theorem d_S_blockMapStands_49 : decode b_S_blockMapStands 49 = .ok (.iconst 0, 1) := by decide +kernel
theorem d_S_blockMapStands_50 : decode b_S_blockMapStands 50 = .ok (.ireturn, 1) := by decide +kernel
theorem d_S_blockMapStands_51 : decode b_S_blockMapStands 51 = .ok (.iinc 3 1, 3) := by decide +kernel
theorem d_S_blockMapStands_54 : decode b_S_blockMapStands 54 = .ok (.goto (-43), 3) := by decide +kernel
theorem d_S_blockMapStands_57 : decode b_S_blockMapStands 57 = .ok (.aload_n 0, 1) := by decide +kernel
theorem d_S_blockMapStands_58 : decode b_S_blockMapStands 58 = .ok (.getfield 9, 3) := by decide +kernel
theorem d_S_blockMapStands_61 : decode b_S_blockMapStands 61 = .ok (.aload_n 0, 1) := by decide +kernel
theorem d_S_blockMapStands_62 : decode b_S_blockMapStands 62 = .ok (.getfield 15, 3) := by decide +kernel
theorem d_S_blockMapStands_65 : decode b_S_blockMapStands 65 = .ok (.iload_n 1, 1) := by decide +kernel
theorem d_S_blockMapStands_66 : decode b_S_blockMapStands 66 = .ok (.invokevirtual 270, 3) := by decide +kernel
theorem d_S_blockMapStands_69 : decode b_S_blockMapStands 69 = .ok (.iload_n 2, 1) := by decide +kernel
theorem d_S_blockMapStands_70 : decode b_S_blockMapStands 70 = .ok (.invokevirtual 257, 3) := by decide +kernel
theorem d_S_blockMapStands_73 : decode b_S_blockMapStands 73 = .ok (.ireturn, 1) := by decide +kernel
theorem d_S_freeBlocks_0 : decode b_S_freeBlocks 0 = .ok (.aload_n 0, 1) := by decide +kernel
theorem d_S_freeBlocks_1 : decode b_S_freeBlocks 1 = .ok (.getfield 15, 3) := by decide +kernel
theorem d_S_freeBlocks_4 : decode b_S_freeBlocks 4 = .ok (.iload_n 1, 1) := by decide +kernel
theorem d_S_freeBlocks_5 : decode b_S_freeBlocks 5 = .ok (.invokevirtual 95, 3) := by decide +kernel
theorem d_S_freeBlocks_8 : decode b_S_freeBlocks 8 = .ok (.istore_n 2, 1) := by decide +kernel
theorem d_S_freeBlocks_9 : decode b_S_freeBlocks 9 = .ok (.iconst 0, 1) := by decide +kernel
theorem d_S_freeBlocks_10 : decode b_S_freeBlocks 10 = .ok (.istore_n 3, 1) := by decide +kernel
theorem d_S_freeBlocks_11 : decode b_S_freeBlocks 11 = .ok (.iconst 0, 1) := by decide +kernel
theorem d_S_freeBlocks_12 : decode b_S_freeBlocks 12 = .ok (.istore 4, 2) := by decide +kernel
theorem d_S_freeBlocks_14 : decode b_S_freeBlocks 14 = .ok (.iload 4, 2) := by decide +kernel
theorem d_S_freeBlocks_16 : decode b_S_freeBlocks 16 = .ok (.iload_n 2, 1) := by decide +kernel
theorem d_S_freeBlocks_17 : decode b_S_freeBlocks 17 = .ok (.if_icmp .ge 30, 3) := by decide +kernel
theorem d_S_freeBlocks_20 : decode b_S_freeBlocks 20 = .ok (.aload_n 0, 1) := by decide +kernel
theorem d_S_freeBlocks_21 : decode b_S_freeBlocks 21 = .ok (.aload_n 0, 1) := by decide +kernel
theorem d_S_freeBlocks_22 : decode b_S_freeBlocks 22 = .ok (.getfield 15, 3) := by decide +kernel
theorem d_S_freeBlocks_25 : decode b_S_freeBlocks 25 = .ok (.iload_n 1, 1) := by decide +kernel
theorem d_S_freeBlocks_26 : decode b_S_freeBlocks 26 = .ok (.invokevirtual 105, 3) := by decide +kernel
theorem d_S_freeBlocks_29 : decode b_S_freeBlocks 29 = .ok (.iload 4, 2) := by decide +kernel
theorem d_S_freeBlocks_31 : decode b_S_freeBlocks 31 = .ok (.iadd, 1) := by decide +kernel
theorem d_S_freeBlocks_32 : decode b_S_freeBlocks 32 = .ok (.invokevirtual 276, 3) := by decide +kernel
theorem d_S_freeBlocks_35 : decode b_S_freeBlocks 35 = .ok (.ifCond .ne 6, 3) := by decide +kernel
theorem d_S_freeBlocks_38 : decode b_S_freeBlocks 38 = .ok (.iinc 3 1, 3) := by decide +kernel
theorem d_S_freeBlocks_41 : decode b_S_freeBlocks 41 = .ok (.iinc 4 1, 3) := by decide +kernel
theorem d_S_freeBlocks_44 : decode b_S_freeBlocks 44 = .ok (.goto (-30), 3) := by decide +kernel
theorem d_S_freeBlocks_47 : decode b_S_freeBlocks 47 = .ok (.iload_n 3, 1) := by decide +kernel
theorem d_S_freeBlocks_48 : decode b_S_freeBlocks 48 = .ok (.ireturn, 1) := by decide +kernel
theorem d_S_freeInodes_0 : decode b_S_freeInodes 0 = .ok (.iconst 0, 1) := by decide +kernel
theorem d_S_freeInodes_1 : decode b_S_freeInodes 1 = .ok (.istore_n 2, 1) := by decide +kernel
theorem d_S_freeInodes_2 : decode b_S_freeInodes 2 = .ok (.iconst 0, 1) := by decide +kernel
theorem d_S_freeInodes_3 : decode b_S_freeInodes 3 = .ok (.istore_n 3, 1) := by decide +kernel
theorem d_S_freeInodes_4 : decode b_S_freeInodes 4 = .ok (.iload_n 3, 1) := by decide +kernel
theorem d_S_freeInodes_5 : decode b_S_freeInodes 5 = .ok (.aload_n 0, 1) := by decide +kernel
theorem d_S_freeInodes_6 : decode b_S_freeInodes 6 = .ok (.getfield 15, 3) := by decide +kernel
theorem d_S_freeInodes_9 : decode b_S_freeInodes 9 = .ok (.invokevirtual 114, 3) := by decide +kernel
theorem d_S_freeInodes_12 : decode b_S_freeInodes 12 = .ok (.if_icmp .ge 31, 3) := by decide +kernel
theorem d_S_freeInodes_15 : decode b_S_freeInodes 15 = .ok (.aload_n 0, 1) := by decide +kernel
theorem d_S_freeInodes_16 : decode b_S_freeInodes 16 = .ok (.getfield 9, 3) := by decide +kernel
theorem d_S_freeInodes_19 : decode b_S_freeInodes 19 = .ok (.aload_n 0, 1) := by decide +kernel
theorem d_S_freeInodes_20 : decode b_S_freeInodes 20 = .ok (.getfield 15, 3) := by decide +kernel
theorem d_S_freeInodes_23 : decode b_S_freeInodes 23 = .ok (.iload_n 1, 1) := by decide +kernel
theorem d_S_freeInodes_24 : decode b_S_freeInodes 24 = .ok (.invokevirtual 254, 3) := by decide +kernel
theorem d_S_freeInodes_27 : decode b_S_freeInodes 27 = .ok (.iload_n 3, 1) := by decide +kernel
theorem d_S_freeInodes_28 : decode b_S_freeInodes 28 = .ok (.invokevirtual 273, 3) := by decide +kernel
theorem d_S_freeInodes_31 : decode b_S_freeInodes 31 = .ok (.ifCond .ne 6, 3) := by decide +kernel
theorem d_S_freeInodes_34 : decode b_S_freeInodes 34 = .ok (.iinc 2 1, 3) := by decide +kernel
theorem d_S_freeInodes_37 : decode b_S_freeInodes 37 = .ok (.iinc 3 1, 3) := by decide +kernel
theorem d_S_freeInodes_40 : decode b_S_freeInodes 40 = .ok (.goto (-36), 3) := by decide +kernel
theorem d_S_freeInodes_43 : decode b_S_freeInodes 43 = .ok (.iload_n 2, 1) := by decide +kernel
theorem d_S_freeInodes_44 : decode b_S_freeInodes 44 = .ok (.ireturn, 1) := by decide +kernel
theorem d_S_directories_0 : decode b_S_directories 0 = .ok (.iconst 0, 1) := by decide +kernel
theorem d_S_directories_1 : decode b_S_directories 1 = .ok (.istore_n 2, 1) := by decide +kernel
theorem d_S_directories_2 : decode b_S_directories 2 = .ok (.iconst 0, 1) := by decide +kernel
theorem d_S_directories_3 : decode b_S_directories 3 = .ok (.istore_n 3, 1) := by decide +kernel
theorem d_S_directories_4 : decode b_S_directories 4 = .ok (.iload_n 3, 1) := by decide +kernel
theorem d_S_directories_5 : decode b_S_directories 5 = .ok (.aload_n 0, 1) := by decide +kernel
theorem d_S_directories_6 : decode b_S_directories 6 = .ok (.getfield 134, 3) := by decide +kernel
theorem d_S_directories_9 : decode b_S_directories 9 = .ok (.if_icmp .ge 57, 3) := by decide +kernel
theorem d_S_directories_12 : decode b_S_directories 12 = .ok (.iload_n 3, 1) := by decide +kernel
theorem d_S_directories_13 : decode b_S_directories 13 = .ok (.aload_n 0, 1) := by decide +kernel
theorem d_S_directories_14 : decode b_S_directories 14 = .ok (.getfield 30, 3) := by decide +kernel
theorem d_S_directories_17 : decode b_S_directories 17 = .ok (.arraylength, 1) := by decide +kernel
theorem d_S_directories_18 : decode b_S_directories 18 = .ok (.if_icmp .ge 48, 3) := by decide +kernel
theorem d_S_directories_21 : decode b_S_directories 21 = .ok (.aload_n 0, 1) := by decide +kernel
theorem d_S_directories_22 : decode b_S_directories 22 = .ok (.getfield 15, 3) := by decide +kernel
theorem d_S_directories_25 : decode b_S_directories 25 = .ok (.aload_n 0, 1) := by decide +kernel
theorem d_S_directories_26 : decode b_S_directories 26 = .ok (.getfield 30, 3) := by decide +kernel
theorem d_S_directories_29 : decode b_S_directories 29 = .ok (.iload_n 3, 1) := by decide +kernel
theorem d_S_directories_30 : decode b_S_directories 30 = .ok (.iaload, 1) := by decide +kernel
theorem d_S_directories_31 : decode b_S_directories 31 = .ok (.invokevirtual 279, 3) := by decide +kernel
theorem d_S_directories_34 : decode b_S_directories 34 = .ok (.iload_n 1, 1) := by decide +kernel
theorem d_S_directories_35 : decode b_S_directories 35 = .ok (.if_icmp .ne 25, 3) := by decide +kernel
theorem d_S_directories_38 : decode b_S_directories 38 = .ok (.aload_n 0, 1) := by decide +kernel
theorem d_S_directories_39 : decode b_S_directories 39 = .ok (.getfield 15, 3) := by decide +kernel
theorem d_S_directories_42 : decode b_S_directories 42 = .ok (.aload_n 0, 1) := by decide +kernel
theorem d_S_directories_43 : decode b_S_directories 43 = .ok (.getfield 30, 3) := by decide +kernel
theorem d_S_directories_46 : decode b_S_directories 46 = .ok (.iload_n 3, 1) := by decide +kernel
theorem d_S_directories_47 : decode b_S_directories 47 = .ok (.iaload, 1) := by decide +kernel
theorem d_S_directories_48 : decode b_S_directories 48 = .ok (.invokevirtual 140, 3) := by decide +kernel
theorem d_S_directories_51 : decode b_S_directories 51 = .ok (.sipush 16384, 3) := by decide +kernel
theorem d_S_directories_54 : decode b_S_directories 54 = .ok (.if_icmp .ne 6, 3) := by decide +kernel
theorem d_S_directories_57 : decode b_S_directories 57 = .ok (.iinc 2 1, 3) := by decide +kernel
theorem d_S_directories_60 : decode b_S_directories 60 = .ok (.iinc 3 1, 3) := by decide +kernel
theorem d_S_directories_63 : decode b_S_directories 63 = .ok (.goto (-59), 3) := by decide +kernel
theorem d_S_directories_66 : decode b_S_directories 66 = .ok (.iload_n 2, 1) := by decide +kernel
theorem d_S_directories_67 : decode b_S_directories 67 = .ok (.ireturn, 1) := by decide +kernel
theorem d_S_mapsStand_0 : decode b_S_mapsStand 0 = .ok (.iconst 0, 1) := by decide +kernel
theorem d_S_mapsStand_1 : decode b_S_mapsStand 1 = .ok (.istore_n 1, 1) := by decide +kernel
theorem d_S_mapsStand_2 : decode b_S_mapsStand 2 = .ok (.iconst 0, 1) := by decide +kernel
theorem d_S_mapsStand_3 : decode b_S_mapsStand 3 = .ok (.istore_n 2, 1) := by decide +kernel
theorem d_S_mapsStand_4 : decode b_S_mapsStand 4 = .ok (.iconst 0, 1) := by decide +kernel
theorem d_S_mapsStand_5 : decode b_S_mapsStand 5 = .ok (.istore_n 3, 1) := by decide +kernel
theorem d_S_mapsStand_6 : decode b_S_mapsStand 6 = .ok (.iload_n 3, 1) := by decide +kernel
theorem d_S_mapsStand_7 : decode b_S_mapsStand 7 = .ok (.aload_n 0, 1) := by decide +kernel
theorem d_S_mapsStand_8 : decode b_S_mapsStand 8 = .ok (.getfield 15, 3) := by decide +kernel
theorem d_S_mapsStand_11 : decode b_S_mapsStand 11 = .ok (.invokevirtual 92, 3) := by decide +kernel
theorem d_S_mapsStand_14 : decode b_S_mapsStand 14 = .ok (.if_icmp .ge 127, 3) := by decide +kernel
theorem d_S_mapsStand_17 : decode b_S_mapsStand 17 = .ok (.aload_n 0, 1) := by decide +kernel
theorem d_S_mapsStand_18 : decode b_S_mapsStand 18 = .ok (.iload_n 3, 1) := by decide +kernel
theorem d_S_mapsStand_19 : decode b_S_mapsStand 19 = .ok (.invokevirtual 251, 3) := by decide +kernel
theorem d_S_mapsStand_22 : decode b_S_mapsStand 22 = .ok (.ifCond .eq 28, 3) := by decide +kernel
theorem d_S_mapsStand_25 : decode b_S_mapsStand 25 = .ok (.aload_n 0, 1) := by decide +kernel
theorem d_S_mapsStand_26 : decode b_S_mapsStand 26 = .ok (.getfield 9, 3) := by decide +kernel
theorem d_S_mapsStand_29 : decode b_S_mapsStand 29 = .ok (.aload_n 0, 1) := by decide +kernel
theorem d_S_mapsStand_30 : decode b_S_mapsStand 30 = .ok (.getfield 15, 3) := by decide +kernel
theorem d_S_mapsStand_33 : decode b_S_mapsStand 33 = .ok (.iload_n 3, 1) := by decide +kernel
theorem d_S_mapsStand_34 : decode b_S_mapsStand 34 = .ok (.invokevirtual 254, 3) := by decide +kernel
theorem d_S_mapsStand_37 : decode b_S_mapsStand 37 = .ok (.aload_n 0, 1) := by decide +kernel
theorem d_S_mapsStand_38 : decode b_S_mapsStand 38 = .ok (.getfield 15, 3) := by decide +kernel
theorem d_S_mapsStand_41 : decode b_S_mapsStand 41 = .ok (.invokevirtual 114, 3) := by decide +kernel
theorem d_S_mapsStand_44 : decode b_S_mapsStand 44 = .ok (.invokevirtual 257, 3) := by decide +kernel
theorem d_S_mapsStand_47 : decode b_S_mapsStand 47 = .ok (.ifCond .ne 5, 3) := by decide +kernel
theorem d_S_mapsStand_50 : decode b_S_mapsStand 50 = .ok (.iconst 0, 1) := by decide +kernel
theorem d_S_mapsStand_51 : decode b_S_mapsStand 51 = .ok (.ireturn, 1) := by decide +kernel
theorem d_S_mapsStand_52 : decode b_S_mapsStand 52 = .ok (.aload_n 0, 1) := by decide +kernel
theorem d_S_mapsStand_53 : decode b_S_mapsStand 53 = .ok (.iload_n 3, 1) := by decide +kernel
theorem d_S_mapsStand_54 : decode b_S_mapsStand 54 = .ok (.invokevirtual 261, 3) := by decide +kernel
theorem d_S_mapsStand_57 : decode b_S_mapsStand 57 = .ok (.istore 4, 2) := by decide +kernel
theorem d_S_mapsStand_59 : decode b_S_mapsStand 59 = .ok (.aload_n 0, 1) := by decide +kernel
theorem d_S_mapsStand_60 : decode b_S_mapsStand 60 = .ok (.iload_n 3, 1) := by decide +kernel
theorem d_S_mapsStand_61 : decode b_S_mapsStand 61 = .ok (.invokevirtual 264, 3) := by decide +kernel
theorem d_S_mapsStand_64 : decode b_S_mapsStand 64 = .ok (.istore 5, 2) := by decide +kernel
theorem d_S_mapsStand_66 : decode b_S_mapsStand 66 = .ok (.aload_n 0, 1) := by decide +kernel
theorem d_S_mapsStand_67 : decode b_S_mapsStand 67 = .ok (.getfield 15, 3) := by decide +kernel
theorem d_S_mapsStand_70 : decode b_S_mapsStand 70 = .ok (.iload_n 3, 1) := by decide +kernel
theorem d_S_mapsStand_71 : decode b_S_mapsStand 71 = .ok (.bipush 12, 2) := by decide +kernel
theorem d_S_mapsStand_73 : decode b_S_mapsStand 73 = .ok (.iconst 2, 1) := by decide +kernel
theorem d_S_mapsStand_74 : decode b_S_mapsStand 74 = .ok (.invokevirtual 117, 3) := by decide +kernel
theorem d_S_mapsStand_77 : decode b_S_mapsStand 77 = .ok (.iload 4, 2) := by decide +kernel
theorem d_S_mapsStand_79 : decode b_S_mapsStand 79 = .ok (.i2l, 1) := by decide +kernel
theorem d_S_mapsStand_80 : decode b_S_mapsStand 80 = .ok (.lcmp, 1) := by decide +kernel
theorem d_S_mapsStand_81 : decode b_S_mapsStand 81 = .ok (.ifCond .ne 42, 3) := by decide +kernel
theorem d_S_mapsStand_84 : decode b_S_mapsStand 84 = .ok (.aload_n 0, 1) := by decide +kernel
theorem d_S_mapsStand_85 : decode b_S_mapsStand 85 = .ok (.getfield 15, 3) := by decide +kernel
theorem d_S_mapsStand_88 : decode b_S_mapsStand 88 = .ok (.iload_n 3, 1) := by decide +kernel
theorem d_S_mapsStand_89 : decode b_S_mapsStand 89 = .ok (.bipush 14, 2) := by decide +kernel
theorem d_S_mapsStand_91 : decode b_S_mapsStand 91 = .ok (.iconst 2, 1) := by decide +kernel
theorem d_S_mapsStand_92 : decode b_S_mapsStand 92 = .ok (.invokevirtual 117, 3) := by decide +kernel
theorem d_S_mapsStand_95 : decode b_S_mapsStand 95 = .ok (.iload 5, 2) := by decide +kernel
theorem d_S_mapsStand_97 : decode b_S_mapsStand 97 = .ok (.i2l, 1) := by decide +kernel
theorem d_S_mapsStand_98 : decode b_S_mapsStand 98 = .ok (.lcmp, 1) := by decide +kernel
theorem d_S_mapsStand_99 : decode b_S_mapsStand 99 = .ok (.ifCond .ne 24, 3) := by decide +kernel
theorem d_S_mapsStand_102 : decode b_S_mapsStand 102 = .ok (.aload_n 0, 1) := by decide +kernel
theorem d_S_mapsStand_103 : decode b_S_mapsStand 103 = .ok (.getfield 15, 3) := by decide +kernel
theorem d_S_mapsStand_106 : decode b_S_mapsStand 106 = .ok (.iload_n 3, 1) := by decide +kernel
theorem d_S_mapsStand_107 : decode b_S_mapsStand 107 = .ok (.bipush 16, 2) := by decide +kernel
theorem d_S_mapsStand_109 : decode b_S_mapsStand 109 = .ok (.iconst 2, 1) := by decide +kernel
theorem d_S_mapsStand_110 : decode b_S_mapsStand 110 = .ok (.invokevirtual 117, 3) := by decide +kernel
theorem d_S_mapsStand_113 : decode b_S_mapsStand 113 = .ok (.aload_n 0, 1) := by decide +kernel
theorem d_S_mapsStand_114 : decode b_S_mapsStand 114 = .ok (.iload_n 3, 1) := by decide +kernel
theorem d_S_mapsStand_115 : decode b_S_mapsStand 115 = .ok (.invokevirtual 267, 3) := by decide +kernel
theorem d_S_mapsStand_118 : decode b_S_mapsStand 118 = .ok (.i2l, 1) := by decide +kernel
theorem d_S_mapsStand_119 : decode b_S_mapsStand 119 = .ok (.lcmp, 1) := by decide +kernel
theorem d_S_mapsStand_120 : decode b_S_mapsStand 120 = .ok (.ifCond .eq 5, 3) := by decide +kernel
theorem d_S_mapsStand_123 : decode b_S_mapsStand 123 = .ok (.iconst 0, 1) := by decide +kernel
theorem d_S_mapsStand_124 : decode b_S_mapsStand 124 = .ok (.ireturn, 1) := by decide +kernel
theorem d_S_mapsStand_125 : decode b_S_mapsStand 125 = .ok (.iload_n 1, 1) := by decide +kernel
theorem d_S_mapsStand_126 : decode b_S_mapsStand 126 = .ok (.iload 4, 2) := by decide +kernel
theorem d_S_mapsStand_128 : decode b_S_mapsStand 128 = .ok (.iadd, 1) := by decide +kernel
theorem d_S_mapsStand_129 : decode b_S_mapsStand 129 = .ok (.istore_n 1, 1) := by decide +kernel
theorem d_S_mapsStand_130 : decode b_S_mapsStand 130 = .ok (.iload_n 2, 1) := by decide +kernel
theorem d_S_mapsStand_131 : decode b_S_mapsStand 131 = .ok (.iload 5, 2) := by decide +kernel
theorem d_S_mapsStand_133 : decode b_S_mapsStand 133 = .ok (.iadd, 1) := by decide +kernel
theorem d_S_mapsStand_134 : decode b_S_mapsStand 134 = .ok (.istore_n 2, 1) := by decide +kernel
theorem d_S_mapsStand_135 : decode b_S_mapsStand 135 = .ok (.iinc 3 1, 3) := by decide +kernel
theorem d_S_mapsStand_138 : decode b_S_mapsStand 138 = .ok (.goto (-132), 3) := by decide +kernel
theorem d_S_mapsStand_141 : decode b_S_mapsStand 141 = .ok (.aload_n 0, 1) := by decide +kernel
theorem d_S_mapsStand_142 : decode b_S_mapsStand 142 = .ok (.bipush 12, 2) := by decide +kernel
theorem d_S_mapsStand_144 : decode b_S_mapsStand 144 = .ok (.iconst 4, 1) := by decide +kernel
theorem d_S_mapsStand_145 : decode b_S_mapsStand 145 = .ok (.iload_n 1, 1) := by decide +kernel
theorem d_S_mapsStand_146 : decode b_S_mapsStand 146 = .ok (.i2l, 1) := by decide +kernel
theorem d_S_mapsStand_147 : decode b_S_mapsStand 147 = .ok (.invokevirtual 68, 3) := by decide +kernel
theorem d_S_mapsStand_150 : decode b_S_mapsStand 150 = .ok (.ifCond .eq 19, 3) := by decide +kernel
theorem d_S_mapsStand_153 : decode b_S_mapsStand 153 = .ok (.aload_n 0, 1) := by decide +kernel
theorem d_S_mapsStand_154 : decode b_S_mapsStand 154 = .ok (.bipush 16, 2) := by decide +kernel
theorem d_S_mapsStand_156 : decode b_S_mapsStand 156 = .ok (.iconst 4, 1) := by decide +kernel
theorem d_S_mapsStand_157 : decode b_S_mapsStand 157 = .ok (.iload_n 2, 1) := by decide +kernel
theorem d_S_mapsStand_158 : decode b_S_mapsStand 158 = .ok (.i2l, 1) := by decide +kernel
theorem d_S_mapsStand_159 : decode b_S_mapsStand 159 = .ok (.invokevirtual 68, 3) := by decide +kernel
theorem d_S_mapsStand_162 : decode b_S_mapsStand 162 = .ok (.ifCond .eq 7, 3) := by decide +kernel
theorem d_S_mapsStand_165 : decode b_S_mapsStand 165 = .ok (.iconst 1, 1) := by decide +kernel
theorem d_S_mapsStand_166 : decode b_S_mapsStand 166 = .ok (.goto 4, 3) := by decide +kernel
theorem d_S_mapsStand_169 : decode b_S_mapsStand 169 = .ok (.iconst 0, 1) := by decide +kernel
theorem d_S_mapsStand_170 : decode b_S_mapsStand 170 = .ok (.ireturn, 1) := by decide +kernel
theorem d_S_lateFault_0 : decode b_S_lateFault 0 = .ok (.aload_n 0, 1) := by decide +kernel
theorem d_S_lateFault_1 : decode b_S_lateFault 1 = .ok (.invokevirtual 239, 3) := by decide +kernel
theorem d_S_lateFault_4 : decode b_S_lateFault 4 = .ok (.ifCond .ne 6, 3) := by decide +kernel
theorem d_S_lateFault_7 : decode b_S_lateFault 7 = .ok (.bipush 6, 2) := by decide +kernel
theorem d_S_lateFault_9 : decode b_S_lateFault 9 = .ok (.ireturn, 1) := by decide +kernel
theorem d_S_lateFault_10 : decode b_S_lateFault 10 = .ok (.aload_n 0, 1) := by decide +kernel
theorem d_S_lateFault_11 : decode b_S_lateFault 11 = .ok (.invokevirtual 242, 3) := by decide +kernel
theorem d_S_lateFault_14 : decode b_S_lateFault 14 = .ok (.ifCond .ne 6, 3) := by decide +kernel
theorem d_S_lateFault_17 : decode b_S_lateFault 17 = .ok (.bipush 7, 2) := by decide +kernel
theorem d_S_lateFault_19 : decode b_S_lateFault 19 = .ok (.ireturn, 1) := by decide +kernel
theorem d_S_lateFault_20 : decode b_S_lateFault 20 = .ok (.aload_n 0, 1) := by decide +kernel
theorem d_S_lateFault_21 : decode b_S_lateFault 21 = .ok (.invokevirtual 245, 3) := by decide +kernel
theorem d_S_lateFault_24 : decode b_S_lateFault 24 = .ok (.ifCond .eq 7, 3) := by decide +kernel
theorem d_S_lateFault_27 : decode b_S_lateFault 27 = .ok (.iconst 0, 1) := by decide +kernel
theorem d_S_lateFault_28 : decode b_S_lateFault 28 = .ok (.goto 5, 3) := by decide +kernel
theorem d_S_lateFault_31 : decode b_S_lateFault 31 = .ok (.bipush 8, 2) := by decide +kernel
theorem d_S_lateFault_33 : decode b_S_lateFault 33 = .ok (.ireturn, 1) := by decide +kernel
theorem d_S_firstFault_0 : decode b_S_firstFault 0 = .ok (.aload_n 0, 1) := by decide +kernel
theorem d_S_firstFault_1 : decode b_S_firstFault 1 = .ok (.getfield 39, 3) := by decide +kernel
theorem d_S_firstFault_4 : decode b_S_firstFault 4 = .ok (.iconst (-1), 1) := by decide +kernel
theorem d_S_firstFault_5 : decode b_S_firstFault 5 = .ok (.if_icmp .eq 8, 3) := by decide +kernel
theorem d_S_firstFault_8 : decode b_S_firstFault 8 = .ok (.aload_n 0, 1) := by decide +kernel
theorem d_S_firstFault_9 : decode b_S_firstFault 9 = .ok (.getfield 39, 3) := by decide +kernel
theorem d_S_firstFault_12 : decode b_S_firstFault 12 = .ok (.ireturn, 1) := by decide +kernel
theorem d_S_firstFault_13 : decode b_S_firstFault 13 = .ok (.aload_n 0, 1) := by decide +kernel
theorem d_S_firstFault_14 : decode b_S_firstFault 14 = .ok (.invokevirtual 43, 3) := by decide +kernel
theorem d_S_firstFault_17 : decode b_S_firstFault 17 = .ok (.ifCond .ne 11, 3) := by decide +kernel
theorem d_S_firstFault_20 : decode b_S_firstFault 20 = .ok (.aload_n 0, 1) := by decide +kernel
theorem d_S_firstFault_21 : decode b_S_firstFault 21 = .ok (.iconst 1, 1) := by decide +kernel
theorem d_S_firstFault_22 : decode b_S_firstFault 22 = .ok (.putfield 39, 3) := by decide +kernel
theorem d_S_firstFault_25 : decode b_S_firstFault 25 = .ok (.goto 41, 3) := by decide +kernel
theorem d_S_firstFault_28 : decode b_S_firstFault 28 = .ok (.aload_n 0, 1) := by decide +kernel
theorem d_S_firstFault_29 : decode b_S_firstFault 29 = .ok (.invokevirtual 47, 3) := by decide +kernel
theorem d_S_firstFault_32 : decode b_S_firstFault 32 = .ok (.ifCond .ne 11, 3) := by decide +kernel
theorem d_S_firstFault_35 : decode b_S_firstFault 35 = .ok (.aload_n 0, 1) := by decide +kernel
theorem d_S_firstFault_36 : decode b_S_firstFault 36 = .ok (.iconst 2, 1) := by decide +kernel
theorem d_S_firstFault_37 : decode b_S_firstFault 37 = .ok (.putfield 39, 3) := by decide +kernel
theorem d_S_firstFault_40 : decode b_S_firstFault 40 = .ok (.goto 26, 3) := by decide +kernel
theorem d_S_firstFault_43 : decode b_S_firstFault 43 = .ok (.aload_n 0, 1) := by decide +kernel
theorem d_S_firstFault_44 : decode b_S_firstFault 44 = .ok (.invokevirtual 50, 3) := by decide +kernel
theorem d_S_firstFault_47 : decode b_S_firstFault 47 = .ok (.ifCond .ne 11, 3) := by decide +kernel
theorem d_S_firstFault_50 : decode b_S_firstFault 50 = .ok (.aload_n 0, 1) := by decide +kernel
theorem d_S_firstFault_51 : decode b_S_firstFault 51 = .ok (.iconst 3, 1) := by decide +kernel
theorem d_S_firstFault_52 : decode b_S_firstFault 52 = .ok (.putfield 39, 3) := by decide +kernel
theorem d_S_firstFault_55 : decode b_S_firstFault 55 = .ok (.goto 11, 3) := by decide +kernel
theorem d_S_firstFault_58 : decode b_S_firstFault 58 = .ok (.aload_n 0, 1) := by decide +kernel
theorem d_S_firstFault_59 : decode b_S_firstFault 59 = .ok (.aload_n 0, 1) := by decide +kernel
theorem d_S_firstFault_60 : decode b_S_firstFault 60 = .ok (.invokevirtual 53, 3) := by decide +kernel
theorem d_S_firstFault_63 : decode b_S_firstFault 63 = .ok (.putfield 39, 3) := by decide +kernel
theorem d_S_firstFault_66 : decode b_S_firstFault 66 = .ok (.aload_n 0, 1) := by decide +kernel
theorem d_S_firstFault_67 : decode b_S_firstFault 67 = .ok (.getfield 39, 3) := by decide +kernel
theorem d_S_firstFault_70 : decode b_S_firstFault 70 = .ok (.ifCond .ne 11, 3) := by decide +kernel
theorem d_S_firstFault_73 : decode b_S_firstFault 73 = .ok (.aload_n 0, 1) := by decide +kernel
theorem d_S_firstFault_74 : decode b_S_firstFault 74 = .ok (.aload_n 0, 1) := by decide +kernel
theorem d_S_firstFault_75 : decode b_S_firstFault 75 = .ok (.invokevirtual 57, 3) := by decide +kernel
theorem d_S_firstFault_78 : decode b_S_firstFault 78 = .ok (.putfield 39, 3) := by decide +kernel
theorem d_S_firstFault_81 : decode b_S_firstFault 81 = .ok (.aload_n 0, 1) := by decide +kernel
theorem d_S_firstFault_82 : decode b_S_firstFault 82 = .ok (.getfield 39, 3) := by decide +kernel
theorem d_S_firstFault_85 : decode b_S_firstFault 85 = .ok (.ireturn, 1) := by decide +kernel
