theorem d_M_firstFault_0 : decode b_M_firstFault 0 = .ok (.iconst 0, 1) := by decide +kernel
theorem d_M_firstFault_1 : decode b_M_firstFault 1 = .ok (.istore_n 1, 1) := by decide +kernel
theorem d_M_firstFault_2 : decode b_M_firstFault 2 = .ok (.iload_n 1, 1) := by decide +kernel
theorem d_M_firstFault_3 : decode b_M_firstFault 3 = .ok (.sipush 512, 3) := by decide +kernel
theorem d_M_firstFault_6 : decode b_M_firstFault 6 = .ok (.if_icmp .ge 23, 3) := by decide +kernel
theorem d_M_firstFault_9 : decode b_M_firstFault 9 = .ok (.aload_n 0, 1) := by decide +kernel
theorem d_M_firstFault_10 : decode b_M_firstFault 10 = .ok (.getfield 18, 3) := by decide +kernel
theorem d_M_firstFault_13 : decode b_M_firstFault 13 = .ok (.iload_n 1, 1) := by decide +kernel
theorem d_M_firstFault_14 : decode b_M_firstFault 14 = .ok (.iconst 0, 1) := by decide +kernel
theorem d_M_firstFault_15 : decode b_M_firstFault 15 = .ok (.bastore, 1) := by decide +kernel
theorem d_M_firstFault_16 : decode b_M_firstFault 16 = .ok (.aload_n 0, 1) := by decide +kernel
theorem d_M_firstFault_17 : decode b_M_firstFault 17 = .ok (.getfield 22, 3) := by decide +kernel
theorem d_M_firstFault_20 : decode b_M_firstFault 20 = .ok (.iload_n 1, 1) := by decide +kernel
theorem d_M_firstFault_21 : decode b_M_firstFault 21 = .ok (.iconst 0, 1) := by decide +kernel
theorem d_M_firstFault_22 : decode b_M_firstFault 22 = .ok (.bastore, 1) := by decide +kernel
theorem d_M_firstFault_23 : decode b_M_firstFault 23 = .ok (.iinc 1 1, 3) := by decide +kernel
theorem d_M_firstFault_26 : decode b_M_firstFault 26 = .ok (.goto (-24), 3) := by decide +kernel
theorem d_M_firstFault_29 : decode b_M_firstFault 29 = .ok (.aload_n 0, 1) := by decide +kernel
theorem d_M_firstFault_30 : decode b_M_firstFault 30 = .ok (.invokevirtual 176, 3) := by decide +kernel
theorem d_M_firstFault_33 : decode b_M_firstFault 33 = .ok (.ifCond .eq 5, 3) := by decide +kernel
theorem d_M_firstFault_36 : decode b_M_firstFault 36 = .ok (.iconst 1, 1) := by decide +kernel
theorem d_M_firstFault_37 : decode b_M_firstFault 37 = .ok (.ireturn, 1) := by decide +kernel
theorem d_M_firstFault_38 : decode b_M_firstFault 38 = .ok (.aload_n 0, 1) := by decide +kernel
theorem d_M_firstFault_39 : decode b_M_firstFault 39 = .ok (.invokevirtual 179, 3) := by decide +kernel
theorem d_M_firstFault_42 : decode b_M_firstFault 42 = .ok (.ifCond .eq 5, 3) := by decide +kernel
theorem d_M_firstFault_45 : decode b_M_firstFault 45 = .ok (.iconst 2, 1) := by decide +kernel
theorem d_M_firstFault_46 : decode b_M_firstFault 46 = .ok (.ireturn, 1) := by decide +kernel
theorem d_M_firstFault_47 : decode b_M_firstFault 47 = .ok (.aload_n 0, 1) := by decide +kernel
theorem d_M_firstFault_48 : decode b_M_firstFault 48 = .ok (.invokevirtual 182, 3) := by decide +kernel
theorem d_M_firstFault_51 : decode b_M_firstFault 51 = .ok (.ifCond .eq 5, 3) := by decide +kernel
theorem d_M_firstFault_54 : decode b_M_firstFault 54 = .ok (.iconst 3, 1) := by decide +kernel
theorem d_M_firstFault_55 : decode b_M_firstFault 55 = .ok (.ireturn, 1) := by decide +kernel
theorem d_M_firstFault_56 : decode b_M_firstFault 56 = .ok (.aload_n 0, 1) := by decide +kernel
theorem d_M_firstFault_57 : decode b_M_firstFault 57 = .ok (.invokevirtual 185, 3) := by decide +kernel
theorem d_M_firstFault_60 : decode b_M_firstFault 60 = .ok (.istore_n 1, 1) := by decide +kernel
theorem d_M_firstFault_61 : decode b_M_firstFault 61 = .ok (.iload_n 1, 1) := by decide +kernel
theorem d_M_firstFault_62 : decode b_M_firstFault 62 = .ok (.ifCond .le 5, 3) := by decide +kernel
theorem d_M_firstFault_65 : decode b_M_firstFault 65 = .ok (.iload_n 1, 1) := by decide +kernel
theorem d_M_firstFault_66 : decode b_M_firstFault 66 = .ok (.ireturn, 1) := by decide +kernel
theorem d_M_firstFault_67 : decode b_M_firstFault 67 = .ok (.aload_n 0, 1) := by decide +kernel
theorem d_M_firstFault_68 : decode b_M_firstFault 68 = .ok (.invokevirtual 189, 3) := by decide +kernel
theorem d_M_firstFault_71 : decode b_M_firstFault 71 = .ok (.ifCond .eq 8, 3) := by decide +kernel
theorem d_M_firstFault_74 : decode b_M_firstFault 74 = .ok (.bipush 6, 2) := by decide +kernel
theorem d_M_firstFault_76 : decode b_M_firstFault 76 = .ok (.goto 28, 3) := by decide +kernel
theorem d_M_firstFault_79 : decode b_M_firstFault 79 = .ok (.aload_n 0, 1) := by decide +kernel
theorem d_M_firstFault_80 : decode b_M_firstFault 80 = .ok (.invokevirtual 192, 3) := by decide +kernel
theorem d_M_firstFault_83 : decode b_M_firstFault 83 = .ok (.ifCond .eq 8, 3) := by decide +kernel
theorem d_M_firstFault_86 : decode b_M_firstFault 86 = .ok (.bipush 7, 2) := by decide +kernel
theorem d_M_firstFault_88 : decode b_M_firstFault 88 = .ok (.goto 16, 3) := by decide +kernel
theorem d_M_firstFault_91 : decode b_M_firstFault 91 = .ok (.aload_n 0, 1) := by decide +kernel
theorem d_M_firstFault_92 : decode b_M_firstFault 92 = .ok (.invokevirtual 195, 3) := by decide +kernel
theorem d_M_firstFault_95 : decode b_M_firstFault 95 = .ok (.ifCond .eq 8, 3) := by decide +kernel
theorem d_M_firstFault_98 : decode b_M_firstFault 98 = .ok (.bipush 8, 2) := by decide +kernel
theorem d_M_firstFault_100 : decode b_M_firstFault 100 = .ok (.goto 4, 3) := by decide +kernel
theorem d_M_firstFault_103 : decode b_M_firstFault 103 = .ok (.iconst 0, 1) := by decide +kernel
theorem d_M_firstFault_104 : decode b_M_firstFault 104 = .ok (.ireturn, 1) := by decide +kernel
theorem d_M_look_0 : decode b_M_look 0 = .ok (.aload_n 0, 1) := by decide +kernel
theorem d_M_look_1 : decode b_M_look 1 = .ok (.getfield 58, 3) := by decide +kernel
theorem d_M_look_4 : decode b_M_look 4 = .ok (.ifCond .ne 11, 3) := by decide +kernel
theorem d_M_look_7 : decode b_M_look 7 = .ok (.aload_n 0, 1) := by decide +kernel
theorem d_M_look_8 : decode b_M_look 8 = .ok (.aload_n 0, 1) := by decide +kernel
theorem d_M_look_9 : decode b_M_look 9 = .ok (.invokevirtual 198, 3) := by decide +kernel
theorem d_M_look_12 : decode b_M_look 12 = .ok (.putfield 201, 3) := by decide +kernel
theorem d_M_look_15 : decode b_M_look 15 = .ok (.aload_n 0, 1) := by decide +kernel
theorem d_M_look_16 : decode b_M_look 16 = .ok (.iconst 1, 1) := by decide +kernel
theorem d_M_look_17 : decode b_M_look 17 = .ok (.putfield 58, 3) := by decide +kernel
theorem d_M_look_20 : decode b_M_look 20 = .ok (.return_, 1) := by decide +kernel
theorem d_M_fault_0 : decode b_M_fault 0 = .ok (.aload_n 0, 1) := by decide +kernel
theorem d_M_fault_1 : decode b_M_fault 1 = .ok (.iconst 0, 1) := by decide +kernel
theorem d_M_fault_2 : decode b_M_fault 2 = .ok (.putfield 44, 3) := by decide +kernel
theorem d_M_fault_5 : decode b_M_fault 5 = .ok (.aload_n 0, 1) := by decide +kernel
theorem d_M_fault_6 : decode b_M_fault 6 = .ok (.invokevirtual 204, 3) := by decide +kernel
theorem d_M_fault_9 : decode b_M_fault 9 = .ok (.aload_n 0, 1) := by decide +kernel
theorem d_M_fault_10 : decode b_M_fault 10 = .ok (.getfield 201, 3) := by decide +kernel
theorem d_M_fault_13 : decode b_M_fault 13 = .ok (.ireturn, 1) := by decide +kernel
theorem d_M_none_0 : decode b_M_none 0 = .ok (.aload_n 0, 1) := by decide +kernel
theorem d_M_none_1 : decode b_M_none 1 = .ok (.iconst 0, 1) := by decide +kernel
theorem d_M_none_2 : decode b_M_none 2 = .ok (.putfield 44, 3) := by decide +kernel
theorem d_M_none_5 : decode b_M_none 5 = .ok (.aload_n 0, 1) := by decide +kernel
theorem d_M_none_6 : decode b_M_none 6 = .ok (.invokevirtual 204, 3) := by decide +kernel
theorem d_M_none_9 : decode b_M_none 9 = .ok (.aload_n 0, 1) := by decide +kernel
theorem d_M_none_10 : decode b_M_none 10 = .ok (.aload_n 0, 1) := by decide +kernel
theorem d_M_none_11 : decode b_M_none 11 = .ok (.getfield 201, 3) := by decide +kernel
theorem d_M_none_14 : decode b_M_none 14 = .ok (.ifCond .le 7, 3) := by decide +kernel
theorem d_M_none_17 : decode b_M_none 17 = .ok (.iconst 1, 1) := by decide +kernel
theorem d_M_none_18 : decode b_M_none 18 = .ok (.goto 4, 3) := by decide +kernel
theorem d_M_none_21 : decode b_M_none 21 = .ok (.iconst 0, 1) := by decide +kernel
theorem d_M_none_22 : decode b_M_none 22 = .ok (.iconst 1, 1) := by decide +kernel
theorem d_M_none_23 : decode b_M_none 23 = .ok (.invokevirtual 207, 3) := by decide +kernel
theorem d_M_none_26 : decode b_M_none 26 = .ok (.ireturn, 1) := by decide +kernel
theorem d_M_count_0 : decode b_M_count 0 = .ok (.iconst 0, 1) := by decide +kernel
theorem d_M_count_1 : decode b_M_count 1 = .ok (.istore_n 1, 1) := by decide +kernel
theorem d_M_count_2 : decode b_M_count 2 = .ok (.aload_n 0, 1) := by decide +kernel
theorem d_M_count_3 : decode b_M_count 3 = .ok (.aload_n 0, 1) := by decide +kernel
theorem d_M_count_4 : decode b_M_count 4 = .ok (.getfield 37, 3) := by decide +kernel
theorem d_M_count_7 : decode b_M_count 7 = .ok (.iload_n 1, 1) := by decide +kernel
theorem d_M_count_8 : decode b_M_count 8 = .ok (.invokevirtual 173, 3) := by decide +kernel
theorem d_M_count_11 : decode b_M_count 11 = .ok (.ifCond .eq 9, 3) := by decide +kernel
theorem d_M_count_14 : decode b_M_count 14 = .ok (.iinc 1 1, 3) := by decide +kernel
theorem d_M_count_17 : decode b_M_count 17 = .ok (.goto (-15), 3) := by decide +kernel
theorem d_M_count_20 : decode b_M_count 20 = .ok (.iload_n 1, 1) := by decide +kernel
theorem d_M_count_21 : decode b_M_count 21 = .ok (.ireturn, 1) := by decide +kernel
theorem d_M_items_0 : decode b_M_items 0 = .ok (.aload_n 0, 1) := by decide +kernel
theorem d_M_items_1 : decode b_M_items 1 = .ok (.invokevirtual 211, 3) := by decide +kernel
theorem d_M_items_4 : decode b_M_items 4 = .ok (.ifCond .eq 7, 3) := by decide +kernel
theorem d_M_items_7 : decode b_M_items 7 = .ok (.iconst 0, 1) := by decide +kernel
theorem d_M_items_8 : decode b_M_items 8 = .ok (.goto 7, 3) := by decide +kernel
theorem d_M_items_11 : decode b_M_items 11 = .ok (.aload_n 0, 1) := by decide +kernel
theorem d_M_items_12 : decode b_M_items 12 = .ok (.invokevirtual 214, 3) := by decide +kernel
theorem d_M_items_15 : decode b_M_items 15 = .ok (.ireturn, 1) := by decide +kernel
theorem d_M_no_0 : decode b_M_no 0 = .ok (.aload_n 0, 1) := by decide +kernel
theorem d_M_no_1 : decode b_M_no 1 = .ok (.invokevirtual 211, 3) := by decide +kernel
theorem d_M_no_4 : decode b_M_no 4 = .ok (.ifCond .ne 32, 3) := by decide +kernel
theorem d_M_no_7 : decode b_M_no 7 = .ok (.aload_n 0, 1) := by decide +kernel
theorem d_M_no_8 : decode b_M_no 8 = .ok (.iload_n 1, 1) := by decide +kernel
theorem d_M_no_9 : decode b_M_no 9 = .ok (.ifCond .lt 15, 3) := by decide +kernel
theorem d_M_no_12 : decode b_M_no 12 = .ok (.aload_n 0, 1) := by decide +kernel
theorem d_M_no_13 : decode b_M_no 13 = .ok (.aload_n 0, 1) := by decide +kernel
theorem d_M_no_14 : decode b_M_no 14 = .ok (.getfield 37, 3) := by decide +kernel
theorem d_M_no_17 : decode b_M_no 17 = .ok (.iload_n 1, 1) := by decide +kernel
theorem d_M_no_18 : decode b_M_no 18 = .ok (.invokevirtual 173, 3) := by decide +kernel
theorem d_M_no_21 : decode b_M_no 21 = .ok (.ifCond .ne 7, 3) := by decide +kernel
theorem d_M_no_24 : decode b_M_no 24 = .ok (.iconst 1, 1) := by decide +kernel
theorem d_M_no_25 : decode b_M_no 25 = .ok (.goto 4, 3) := by decide +kernel
theorem d_M_no_28 : decode b_M_no 28 = .ok (.iconst 0, 1) := by decide +kernel
theorem d_M_no_29 : decode b_M_no 29 = .ok (.iconst 2, 1) := by decide +kernel
theorem d_M_no_30 : decode b_M_no 30 = .ok (.invokevirtual 207, 3) := by decide +kernel
theorem d_M_no_33 : decode b_M_no 33 = .ok (.ifCond .eq 7, 3) := by decide +kernel
theorem d_M_no_36 : decode b_M_no 36 = .ok (.iconst 1, 1) := by decide +kernel
theorem d_M_no_37 : decode b_M_no 37 = .ok (.goto 4, 3) := by decide +kernel
theorem d_M_no_40 : decode b_M_no 40 = .ok (.iconst 0, 1) := by decide +kernel
theorem d_M_no_41 : decode b_M_no 41 = .ok (.ireturn, 1) := by decide +kernel
theorem d_M_letter_0 : decode b_M_letter 0 = .ok (.aload_n 0, 1) := by decide +kernel
theorem d_M_letter_1 : decode b_M_letter 1 = .ok (.iload_n 1, 1) := by decide +kernel
theorem d_M_letter_2 : decode b_M_letter 2 = .ok (.invokevirtual 217, 3) := by decide +kernel
theorem d_M_letter_5 : decode b_M_letter 5 = .ok (.ifCond .eq 5, 3) := by decide +kernel
theorem d_M_letter_8 : decode b_M_letter 8 = .ok (.iconst 0, 1) := by decide +kernel
theorem d_M_letter_9 : decode b_M_letter 9 = .ok (.ireturn, 1) := by decide +kernel
theorem d_M_letter_10 : decode b_M_letter 10 = .ok (.iload_n 2, 1) := by decide +kernel
theorem d_M_letter_11 : decode b_M_letter 11 = .ok (.ifCond .lt 15, 3) := by decide +kernel
theorem d_M_letter_14 : decode b_M_letter 14 = .ok (.iload_n 2, 1) := by decide +kernel
theorem d_M_letter_15 : decode b_M_letter 15 = .ok (.aload_n 0, 1) := by decide +kernel
theorem d_M_letter_16 : decode b_M_letter 16 = .ok (.aload_n 0, 1) := by decide +kernel
theorem d_M_letter_17 : decode b_M_letter 17 = .ok (.getfield 157, 3) := by decide +kernel
theorem d_M_letter_20 : decode b_M_letter 20 = .ok (.invokevirtual 137, 3) := by decide +kernel
theorem d_M_letter_23 : decode b_M_letter 23 = .ok (.if_icmp .lt 7, 3) := by decide +kernel
theorem d_M_letter_26 : decode b_M_letter 26 = .ok (.iconst (-1), 1) := by decide +kernel
theorem d_M_letter_27 : decode b_M_letter 27 = .ok (.goto 16, 3) := by decide +kernel
theorem d_M_letter_30 : decode b_M_letter 30 = .ok (.aload_n 0, 1) := by decide +kernel
theorem d_M_letter_31 : decode b_M_letter 31 = .ok (.aload_n 0, 1) := by decide +kernel
theorem d_M_letter_32 : decode b_M_letter 32 = .ok (.getfield 157, 3) := by decide +kernel
theorem d_M_letter_35 : decode b_M_letter 35 = .ok (.bipush 8, 2) := by decide +kernel
theorem d_M_letter_37 : decode b_M_letter 37 = .ok (.iadd, 1) := by decide +kernel
theorem d_M_letter_38 : decode b_M_letter 38 = .ok (.iload_n 2, 1) := by decide +kernel
theorem d_M_letter_39 : decode b_M_letter 39 = .ok (.iadd, 1) := by decide +kernel
theorem d_M_letter_40 : decode b_M_letter 40 = .ok (.invokevirtual 47, 3) := by decide +kernel
theorem d_M_letter_43 : decode b_M_letter 43 = .ok (.ireturn, 1) := by decide +kernel
theorem d_M_about_0 : decode b_M_about 0 = .ok (.aload_n 0, 1) := by decide +kernel
theorem d_M_about_1 : decode b_M_about 1 = .ok (.iload_n 1, 1) := by decide +kernel
theorem d_M_about_2 : decode b_M_about 2 = .ok (.invokevirtual 217, 3) := by decide +kernel
theorem d_M_about_5 : decode b_M_about 5 = .ok (.ifCond .ne 25, 3) := by decide +kernel
theorem d_M_about_8 : decode b_M_about 8 = .ok (.aload_n 0, 1) := by decide +kernel
theorem d_M_about_9 : decode b_M_about 9 = .ok (.iload_n 2, 1) := by decide +kernel
theorem d_M_about_10 : decode b_M_about 10 = .ok (.ifCond .lt 8, 3) := by decide +kernel
theorem d_M_about_13 : decode b_M_about 13 = .ok (.iload_n 2, 1) := by decide +kernel
theorem d_M_about_14 : decode b_M_about 14 = .ok (.iconst 5, 1) := by decide +kernel
theorem d_M_about_15 : decode b_M_about 15 = .ok (.if_icmp .le 7, 3) := by decide +kernel
theorem d_M_about_18 : decode b_M_about 18 = .ok (.iconst 1, 1) := by decide +kernel
theorem d_M_about_19 : decode b_M_about 19 = .ok (.goto 4, 3) := by decide +kernel
theorem d_M_about_22 : decode b_M_about 22 = .ok (.iconst 0, 1) := by decide +kernel
theorem d_M_about_23 : decode b_M_about 23 = .ok (.iconst 3, 1) := by decide +kernel
theorem d_M_about_24 : decode b_M_about 24 = .ok (.invokevirtual 207, 3) := by decide +kernel
theorem d_M_about_27 : decode b_M_about 27 = .ok (.ifCond .eq 5, 3) := by decide +kernel
theorem d_M_about_30 : decode b_M_about 30 = .ok (.lconst 0, 1) := by decide +kernel
theorem d_M_about_31 : decode b_M_about 31 = .ok (.lreturn, 1) := by decide +kernel
theorem d_M_about_32 : decode b_M_about 32 = .ok (.aload_n 0, 1) := by decide +kernel
theorem d_M_about_33 : decode b_M_about 33 = .ok (.aload_n 0, 1) := by decide +kernel
theorem d_M_about_34 : decode b_M_about 34 = .ok (.getfield 157, 3) := by decide +kernel
theorem d_M_about_37 : decode b_M_about 37 = .ok (.invokevirtual 79, 3) := by decide +kernel
theorem d_M_about_40 : decode b_M_about 40 = .ok (.l2i, 1) := by decide +kernel
theorem d_M_about_41 : decode b_M_about 41 = .ok (.istore_n 3, 1) := by decide +kernel
theorem d_M_about_42 : decode b_M_about 42 = .ok (.iload_n 2, 1) := by decide +kernel
theorem d_M_about_43 : decode b_M_about 43 = .ok (.tableswitch 86 0 4 #[33, 36, 53, 59, 73], 33) := by decide +kernel
theorem d_M_about_76 : decode b_M_about 76 = .ok (.iload_n 3, 1) := by decide +kernel
theorem d_M_about_77 : decode b_M_about 77 = .ok (.i2l, 1) := by decide +kernel
theorem d_M_about_78 : decode b_M_about 78 = .ok (.lreturn, 1) := by decide +kernel
theorem d_M_about_79 : decode b_M_about 79 = .ok (.aload_n 0, 1) := by decide +kernel
theorem d_M_about_80 : decode b_M_about 80 = .ok (.iload_n 3, 1) := by decide +kernel
theorem d_M_about_81 : decode b_M_about 81 = .ok (.invokevirtual 146, 3) := by decide +kernel
theorem d_M_about_84 : decode b_M_about 84 = .ok (.sipush 16384, 3) := by decide +kernel
theorem d_M_about_87 : decode b_M_about 87 = .ok (.if_icmp .ne 7, 3) := by decide +kernel
theorem d_M_about_90 : decode b_M_about 90 = .ok (.lconst 1, 1) := by decide +kernel
theorem d_M_about_91 : decode b_M_about 91 = .ok (.goto 4, 3) := by decide +kernel
theorem d_M_about_94 : decode b_M_about 94 = .ok (.lconst 0, 1) := by decide +kernel
theorem d_M_about_95 : decode b_M_about 95 = .ok (.lreturn, 1) := by decide +kernel
theorem d_M_about_96 : decode b_M_about 96 = .ok (.aload_n 0, 1) := by decide +kernel
theorem d_M_about_97 : decode b_M_about 97 = .ok (.iload_n 3, 1) := by decide +kernel
theorem d_M_about_98 : decode b_M_about 98 = .ok (.invokevirtual 123, 3) := by decide +kernel
theorem d_M_about_101 : decode b_M_about 101 = .ok (.lreturn, 1) := by decide +kernel
theorem d_M_about_102 : decode b_M_about 102 = .ok (.aload_n 0, 1) := by decide +kernel
theorem d_M_about_103 : decode b_M_about 103 = .ok (.aload_n 0, 1) := by decide +kernel
theorem d_M_about_104 : decode b_M_about 104 = .ok (.iload_n 3, 1) := by decide +kernel
theorem d_M_about_105 : decode b_M_about 105 = .ok (.invokevirtual 115, 3) := by decide +kernel
theorem d_M_about_108 : decode b_M_about 108 = .ok (.bipush 26, 2) := by decide +kernel
theorem d_M_about_110 : decode b_M_about 110 = .ok (.iadd, 1) := by decide +kernel
theorem d_M_about_111 : decode b_M_about 111 = .ok (.invokevirtual 51, 3) := by decide +kernel
theorem d_M_about_114 : decode b_M_about 114 = .ok (.i2l, 1) := by decide +kernel
theorem d_M_about_115 : decode b_M_about 115 = .ok (.lreturn, 1) := by decide +kernel
theorem d_M_about_116 : decode b_M_about 116 = .ok (.aload_n 0, 1) := by decide +kernel
theorem d_M_about_117 : decode b_M_about 117 = .ok (.aload_n 0, 1) := by decide +kernel
theorem d_M_about_118 : decode b_M_about 118 = .ok (.iload_n 3, 1) := by decide +kernel
theorem d_M_about_119 : decode b_M_about 119 = .ok (.invokevirtual 115, 3) := by decide +kernel
theorem d_M_about_122 : decode b_M_about 122 = .ok (.bipush 16, 2) := by decide +kernel
theorem d_M_about_124 : decode b_M_about 124 = .ok (.iadd, 1) := by decide +kernel
theorem d_M_about_125 : decode b_M_about 125 = .ok (.invokevirtual 79, 3) := by decide +kernel
theorem d_M_about_128 : decode b_M_about 128 = .ok (.lreturn, 1) := by decide +kernel
theorem d_M_about_129 : decode b_M_about 129 = .ok (.aload_n 0, 1) := by decide +kernel
theorem d_M_about_130 : decode b_M_about 130 = .ok (.iload_n 3, 1) := by decide +kernel
theorem d_M_about_131 : decode b_M_about 131 = .ok (.invokevirtual 123, 3) := by decide +kernel
theorem d_M_about_134 : decode b_M_about 134 = .ok (.lconst 0, 1) := by decide +kernel
theorem d_M_about_135 : decode b_M_about 135 = .ok (.lcmp, 1) := by decide +kernel
theorem d_M_about_136 : decode b_M_about 136 = .ok (.ifCond .ne 7, 3) := by decide +kernel
theorem d_M_about_139 : decode b_M_about 139 = .ok (.lconst 0, 1) := by decide +kernel
theorem d_M_about_140 : decode b_M_about 140 = .ok (.goto 20, 3) := by decide +kernel
theorem d_M_about_143 : decode b_M_about 143 = .ok (.aload_n 0, 1) := by decide +kernel
theorem d_M_about_144 : decode b_M_about 144 = .ok (.iload_n 3, 1) := by decide +kernel
theorem d_M_about_145 : decode b_M_about 145 = .ok (.aload_n 0, 1) := by decide +kernel
theorem d_M_about_146 : decode b_M_about 146 = .ok (.iload_n 3, 1) := by decide +kernel
theorem d_M_about_147 : decode b_M_about 147 = .ok (.invokevirtual 123, 3) := by decide +kernel
theorem d_M_about_150 : decode b_M_about 150 = .ok (.lconst 1, 1) := by decide +kernel
theorem d_M_about_151 : decode b_M_about 151 = .ok (.lsub, 1) := by decide +kernel
theorem d_M_about_152 : decode b_M_about 152 = .ok (.ldc2_w 56, 3) := by decide +kernel
theorem d_M_about_155 : decode b_M_about 155 = .ok (.ldiv, 1) := by decide +kernel
theorem d_M_about_156 : decode b_M_about 156 = .ok (.l2i, 1) := by decide +kernel
theorem d_M_about_157 : decode b_M_about 157 = .ok (.invokevirtual 134, 3) := by decide +kernel
theorem d_M_about_160 : decode b_M_about 160 = .ok (.lreturn, 1) := by decide +kernel
theorem d_M_content_0 : decode b_M_content 0 = .ok (.aload_n 0, 1) := by decide +kernel
theorem d_M_content_1 : decode b_M_content 1 = .ok (.iload_n 1, 1) := by decide +kernel
theorem d_M_content_2 : decode b_M_content 2 = .ok (.invokevirtual 217, 3) := by decide +kernel
theorem d_M_content_5 : decode b_M_content 5 = .ok (.ifCond .eq 5, 3) := by decide +kernel
theorem d_M_content_8 : decode b_M_content 8 = .ok (.iconst 0, 1) := by decide +kernel
theorem d_M_content_9 : decode b_M_content 9 = .ok (.ireturn, 1) := by decide +kernel
theorem d_M_content_10 : decode b_M_content 10 = .ok (.aload_n 0, 1) := by decide +kernel
theorem d_M_content_11 : decode b_M_content 11 = .ok (.aload_n 0, 1) := by decide +kernel
theorem d_M_content_12 : decode b_M_content 12 = .ok (.getfield 157, 3) := by decide +kernel
theorem d_M_content_15 : decode b_M_content 15 = .ok (.invokevirtual 79, 3) := by decide +kernel
theorem d_M_content_18 : decode b_M_content 18 = .ok (.l2i, 1) := by decide +kernel
theorem d_M_content_19 : decode b_M_content 19 = .ok (.istore_n 3, 1) := by decide +kernel
theorem d_M_content_20 : decode b_M_content 20 = .ok (.iload_n 2, 1) := by decide +kernel
theorem d_M_content_21 : decode b_M_content 21 = .ok (.ifCond .lt 14, 3) := by decide +kernel
theorem d_M_content_24 : decode b_M_content 24 = .ok (.iload_n 2, 1) := by decide +kernel
theorem d_M_content_25 : decode b_M_content 25 = .ok (.i2l, 1) := by decide +kernel
theorem d_M_content_26 : decode b_M_content 26 = .ok (.aload_n 0, 1) := by decide +kernel
theorem d_M_content_27 : decode b_M_content 27 = .ok (.iload_n 3, 1) := by decide +kernel
theorem d_M_content_28 : decode b_M_content 28 = .ok (.invokevirtual 123, 3) := by decide +kernel
theorem d_M_content_31 : decode b_M_content 31 = .ok (.lcmp, 1) := by decide +kernel
theorem d_M_content_32 : decode b_M_content 32 = .ok (.ifCond .lt 7, 3) := by decide +kernel
theorem d_M_content_35 : decode b_M_content 35 = .ok (.iconst (-1), 1) := by decide +kernel
theorem d_M_content_36 : decode b_M_content 36 = .ok (.goto 28, 3) := by decide +kernel
theorem d_M_content_39 : decode b_M_content 39 = .ok (.aload_n 0, 1) := by decide +kernel
theorem d_M_content_40 : decode b_M_content 40 = .ok (.sipush 1024, 3) := by decide +kernel
theorem d_M_content_43 : decode b_M_content 43 = .ok (.aload_n 0, 1) := by decide +kernel
theorem d_M_content_44 : decode b_M_content 44 = .ok (.iload_n 3, 1) := by decide +kernel
theorem d_M_content_45 : decode b_M_content 45 = .ok (.iload_n 2, 1) := by decide +kernel
theorem d_M_content_46 : decode b_M_content 46 = .ok (.sipush 1024, 3) := by decide +kernel
theorem d_M_content_49 : decode b_M_content 49 = .ok (.idiv, 1) := by decide +kernel
theorem d_M_content_50 : decode b_M_content 50 = .ok (.invokevirtual 134, 3) := by decide +kernel
theorem d_M_content_53 : decode b_M_content 53 = .ok (.l2i, 1) := by decide +kernel
theorem d_M_content_54 : decode b_M_content 54 = .ok (.imul, 1) := by decide +kernel
theorem d_M_content_55 : decode b_M_content 55 = .ok (.iload_n 2, 1) := by decide +kernel
theorem d_M_content_56 : decode b_M_content 56 = .ok (.sipush 1024, 3) := by decide +kernel
theorem d_M_content_59 : decode b_M_content 59 = .ok (.irem, 1) := by decide +kernel
theorem d_M_content_60 : decode b_M_content 60 = .ok (.iadd, 1) := by decide +kernel
theorem d_M_content_61 : decode b_M_content 61 = .ok (.invokevirtual 47, 3) := by decide +kernel
theorem d_M_content_64 : decode b_M_content 64 = .ok (.ireturn, 1) := by decide +kernel
theorem d_M_enter_0 : decode b_M_enter 0 = .ok (.aload_n 0, 1) := by decide +kernel
theorem d_M_enter_1 : decode b_M_enter 1 = .ok (.iload_n 1, 1) := by decide +kernel
theorem d_M_enter_2 : decode b_M_enter 2 = .ok (.invokevirtual 217, 3) := by decide +kernel
theorem d_M_enter_5 : decode b_M_enter 5 = .ok (.ifCond .ne 35, 3) := by decide +kernel
theorem d_M_enter_8 : decode b_M_enter 8 = .ok (.aload_n 0, 1) := by decide +kernel
theorem d_M_enter_9 : decode b_M_enter 9 = .ok (.aload_n 0, 1) := by decide +kernel
theorem d_M_enter_10 : decode b_M_enter 10 = .ok (.aload_n 0, 1) := by decide +kernel
theorem d_M_enter_11 : decode b_M_enter 11 = .ok (.aload_n 0, 1) := by decide +kernel
theorem d_M_enter_12 : decode b_M_enter 12 = .ok (.getfield 157, 3) := by decide +kernel
theorem d_M_enter_15 : decode b_M_enter 15 = .ok (.invokevirtual 79, 3) := by decide +kernel
theorem d_M_enter_18 : decode b_M_enter 18 = .ok (.l2i, 1) := by decide +kernel
theorem d_M_enter_19 : decode b_M_enter 19 = .ok (.invokevirtual 146, 3) := by decide +kernel
theorem d_M_enter_22 : decode b_M_enter 22 = .ok (.sipush 16384, 3) := by decide +kernel
theorem d_M_enter_25 : decode b_M_enter 25 = .ok (.if_icmp .eq 7, 3) := by decide +kernel
theorem d_M_enter_28 : decode b_M_enter 28 = .ok (.iconst 1, 1) := by decide +kernel
theorem d_M_enter_29 : decode b_M_enter 29 = .ok (.goto 4, 3) := by decide +kernel
theorem d_M_enter_32 : decode b_M_enter 32 = .ok (.iconst 0, 1) := by decide +kernel
theorem d_M_enter_33 : decode b_M_enter 33 = .ok (.iconst 3, 1) := by decide +kernel
theorem d_M_enter_34 : decode b_M_enter 34 = .ok (.invokevirtual 207, 3) := by decide +kernel
theorem d_M_enter_37 : decode b_M_enter 37 = .ok (.ifCond .eq 5, 3) := by decide +kernel
theorem d_M_enter_40 : decode b_M_enter 40 = .ok (.iconst 0, 1) := by decide +kernel
theorem d_M_enter_41 : decode b_M_enter 41 = .ok (.ireturn, 1) := by decide +kernel
theorem d_M_enter_42 : decode b_M_enter 42 = .ok (.aload_n 0, 1) := by decide +kernel
theorem d_M_enter_43 : decode b_M_enter 43 = .ok (.aload_n 0, 1) := by decide +kernel
theorem d_M_enter_44 : decode b_M_enter 44 = .ok (.aload_n 0, 1) := by decide +kernel
theorem d_M_enter_45 : decode b_M_enter 45 = .ok (.getfield 157, 3) := by decide +kernel
theorem d_M_enter_48 : decode b_M_enter 48 = .ok (.invokevirtual 79, 3) := by decide +kernel
theorem d_M_enter_51 : decode b_M_enter 51 = .ok (.l2i, 1) := by decide +kernel
theorem d_M_enter_52 : decode b_M_enter 52 = .ok (.putfield 37, 3) := by decide +kernel
theorem d_M_enter_55 : decode b_M_enter 55 = .ok (.aload_n 0, 1) := by decide +kernel
theorem d_M_enter_56 : decode b_M_enter 56 = .ok (.invokevirtual 214, 3) := by decide +kernel
theorem d_M_enter_59 : decode b_M_enter 59 = .ok (.ireturn, 1) := by decide +kernel
theorem d_M_up_0 : decode b_M_up 0 = .ok (.aload_n 0, 1) := by decide +kernel
theorem d_M_up_1 : decode b_M_up 1 = .ok (.invokevirtual 211, 3) := by decide +kernel
theorem d_M_up_4 : decode b_M_up 4 = .ok (.ifCond .ne 11, 3) := by decide +kernel
theorem d_M_up_7 : decode b_M_up 7 = .ok (.aload_n 0, 1) := by decide +kernel
theorem d_M_up_8 : decode b_M_up 8 = .ok (.getfield 37, 3) := by decide +kernel
theorem d_M_up_11 : decode b_M_up 11 = .ok (.iconst 2, 1) := by decide +kernel
theorem d_M_up_12 : decode b_M_up 12 = .ok (.if_icmp .ne 5, 3) := by decide +kernel
theorem d_M_up_15 : decode b_M_up 15 = .ok (.iconst 0, 1) := by decide +kernel
theorem d_M_up_16 : decode b_M_up 16 = .ok (.ireturn, 1) := by decide +kernel
theorem d_M_up_17 : decode b_M_up 17 = .ok (.aload_n 0, 1) := by decide +kernel
theorem d_M_up_18 : decode b_M_up 18 = .ok (.aload_n 0, 1) := by decide +kernel
theorem d_M_up_19 : decode b_M_up 19 = .ok (.getfield 28, 3) := by decide +kernel
theorem d_M_up_22 : decode b_M_up 22 = .ok (.aload_n 0, 1) := by decide +kernel
theorem d_M_up_23 : decode b_M_up 23 = .ok (.getfield 37, 3) := by decide +kernel
theorem d_M_up_26 : decode b_M_up 26 = .ok (.iaload, 1) := by decide +kernel
theorem d_M_up_27 : decode b_M_up 27 = .ok (.putfield 37, 3) := by decide +kernel
theorem d_M_up_30 : decode b_M_up 30 = .ok (.iconst 1, 1) := by decide +kernel
theorem d_M_up_31 : decode b_M_up 31 = .ok (.ireturn, 1) := by decide +kernel
