theorem d_V_items_0 : decode b_V_items 0 = .ok (.aload_n 0, 1) := by decide +kernel
theorem d_V_items_1 : decode b_V_items 1 = .ok (.getfield 41, 3) := by decide +kernel
theorem d_V_items_4 : decode b_V_items 4 = .ok (.invokevirtual 71, 3) := by decide +kernel
theorem d_V_items_7 : decode b_V_items 7 = .ok (.ifCond .eq 13, 3) := by decide +kernel
theorem d_V_items_10 : decode b_V_items 10 = .ok (.new 75, 3) := by decide +kernel
theorem d_V_items_13 : decode b_V_items 13 = .ok (.dup, 1) := by decide +kernel
theorem d_V_items_14 : decode b_V_items 14 = .ok (.ldc 77, 2) := by decide +kernel
theorem d_V_items_16 : decode b_V_items 16 = .ok (.invokespecial 79, 3) := by decide +kernel
theorem d_V_items_19 : decode b_V_items 19 = .ok (.athrow, 1) := by decide +kernel
theorem d_V_items_20 : decode b_V_items 20 = .ok (.aload_n 0, 1) := by decide +kernel
theorem d_V_items_21 : decode b_V_items 21 = .ok (.invokevirtual 82, 3) := by decide +kernel
theorem d_V_items_24 : decode b_V_items 24 = .ok (.ireturn, 1) := by decide +kernel
theorem d_V_seekItem_0 : decode b_V_seekItem 0 = .ok (.iload_n 1, 1) := by decide +kernel
theorem d_V_seekItem_1 : decode b_V_seekItem 1 = .ok (.istore_n 2, 1) := by decide +kernel
theorem d_V_seekItem_2 : decode b_V_seekItem 2 = .ok (.aload_n 0, 1) := by decide +kernel
theorem d_V_seekItem_3 : decode b_V_seekItem 3 = .ok (.getfield 32, 3) := by decide +kernel
theorem d_V_seekItem_6 : decode b_V_seekItem 6 = .ok (.aload_n 0, 1) := by decide +kernel
theorem d_V_seekItem_7 : decode b_V_seekItem 7 = .ok (.getfield 45, 3) := by decide +kernel
theorem d_V_seekItem_10 : decode b_V_seekItem 10 = .ok (.invokevirtual 130, 3) := by decide +kernel
theorem d_V_seekItem_13 : decode b_V_seekItem 13 = .ok (.iconst 0, 1) := by decide +kernel
theorem d_V_seekItem_14 : decode b_V_seekItem 14 = .ok (.istore_n 3, 1) := by decide +kernel
theorem d_V_seekItem_15 : decode b_V_seekItem 15 = .ok (.iload_n 1, 1) := by decide +kernel
theorem d_V_seekItem_16 : decode b_V_seekItem 16 = .ok (.ifCond .lt 50, 3) := by decide +kernel
theorem d_V_seekItem_19 : decode b_V_seekItem 19 = .ok (.iload_n 3, 1) := by decide +kernel
theorem d_V_seekItem_20 : decode b_V_seekItem 20 = .ok (.ldc 139, 2) := by decide +kernel
theorem d_V_seekItem_22 : decode b_V_seekItem 22 = .ok (.if_icmp .ge 44, 3) := by decide +kernel
theorem d_V_seekItem_25 : decode b_V_seekItem 25 = .ok (.aload_n 0, 1) := by decide +kernel
theorem d_V_seekItem_26 : decode b_V_seekItem 26 = .ok (.getfield 32, 3) := by decide +kernel
theorem d_V_seekItem_29 : decode b_V_seekItem 29 = .ok (.invokevirtual 140, 3) := by decide +kernel
theorem d_V_seekItem_32 : decode b_V_seekItem 32 = .ok (.ifCond .eq 34, 3) := by decide +kernel
theorem d_V_seekItem_35 : decode b_V_seekItem 35 = .ok (.aload_n 0, 1) := by decide +kernel
theorem d_V_seekItem_36 : decode b_V_seekItem 36 = .ok (.getfield 32, 3) := by decide +kernel
theorem d_V_seekItem_39 : decode b_V_seekItem 39 = .ok (.invokevirtual 144, 3) := by decide +kernel
theorem d_V_seekItem_42 : decode b_V_seekItem 42 = .ok (.ifCond .eq 11, 3) := by decide +kernel
theorem d_V_seekItem_45 : decode b_V_seekItem 45 = .ok (.iload_n 2, 1) := by decide +kernel
theorem d_V_seekItem_46 : decode b_V_seekItem 46 = .ok (.ifCond .ne 4, 3) := by decide +kernel
theorem d_V_seekItem_49 : decode b_V_seekItem 49 = .ok (.return_, 1) := by decide +kernel
theorem d_V_seekItem_50 : decode b_V_seekItem 50 = .ok (.iinc 2 (-1), 3) := by decide +kernel
theorem d_V_seekItem_53 : decode b_V_seekItem 53 = .ok (.aload_n 0, 1) := by decide +kernel
theorem d_V_seekItem_54 : decode b_V_seekItem 54 = .ok (.getfield 32, 3) := by decide +kernel
theorem d_V_seekItem_57 : decode b_V_seekItem 57 = .ok (.invokevirtual 133, 3) := by decide +kernel
theorem d_V_seekItem_60 : decode b_V_seekItem 60 = .ok (.iinc 3 1, 3) := by decide +kernel
theorem d_V_seekItem_63 : decode b_V_seekItem 63 = .ok (.goto (-48), 3) := by decide +kernel
theorem d_V_seekItem_66 : decode b_V_seekItem 66 = .ok (.new 88, 3) := by decide +kernel
theorem d_V_seekItem_69 : decode b_V_seekItem 69 = .ok (.dup, 1) := by decide +kernel
theorem d_V_seekItem_70 : decode b_V_seekItem 70 = .ok (.ldc 147, 2) := by decide +kernel
theorem d_V_seekItem_72 : decode b_V_seekItem 72 = .ok (.invokespecial 92, 3) := by decide +kernel
theorem d_V_seekItem_75 : decode b_V_seekItem 75 = .ok (.athrow, 1) := by decide +kernel
theorem d_V_letter_0 : decode b_V_letter 0 = .ok (.aload_n 0, 1) := by decide +kernel
theorem d_V_letter_1 : decode b_V_letter 1 = .ok (.getfield 41, 3) := by decide +kernel
theorem d_V_letter_4 : decode b_V_letter 4 = .ok (.invokevirtual 71, 3) := by decide +kernel
theorem d_V_letter_7 : decode b_V_letter 7 = .ok (.ifCond .eq 13, 3) := by decide +kernel
theorem d_V_letter_10 : decode b_V_letter 10 = .ok (.new 75, 3) := by decide +kernel
theorem d_V_letter_13 : decode b_V_letter 13 = .ok (.dup, 1) := by decide +kernel
theorem d_V_letter_14 : decode b_V_letter 14 = .ok (.ldc 77, 2) := by decide +kernel
theorem d_V_letter_16 : decode b_V_letter 16 = .ok (.invokespecial 79, 3) := by decide +kernel
theorem d_V_letter_19 : decode b_V_letter 19 = .ok (.athrow, 1) := by decide +kernel
theorem d_V_letter_20 : decode b_V_letter 20 = .ok (.aload_n 0, 1) := by decide +kernel
theorem d_V_letter_21 : decode b_V_letter 21 = .ok (.iload_n 1, 1) := by decide +kernel
theorem d_V_letter_22 : decode b_V_letter 22 = .ok (.invokevirtual 85, 3) := by decide +kernel
theorem d_V_letter_25 : decode b_V_letter 25 = .ok (.iload_n 2, 1) := by decide +kernel
theorem d_V_letter_26 : decode b_V_letter 26 = .ok (.ifCond .ge 13, 3) := by decide +kernel
theorem d_V_letter_29 : decode b_V_letter 29 = .ok (.new 88, 3) := by decide +kernel
theorem d_V_letter_32 : decode b_V_letter 32 = .ok (.dup, 1) := by decide +kernel
theorem d_V_letter_33 : decode b_V_letter 33 = .ok (.ldc 90, 2) := by decide +kernel
theorem d_V_letter_35 : decode b_V_letter 35 = .ok (.invokespecial 92, 3) := by decide +kernel
theorem d_V_letter_38 : decode b_V_letter 38 = .ok (.athrow, 1) := by decide +kernel
theorem d_V_letter_39 : decode b_V_letter 39 = .ok (.iload_n 2, 1) := by decide +kernel
theorem d_V_letter_40 : decode b_V_letter 40 = .ok (.aload_n 0, 1) := by decide +kernel
theorem d_V_letter_41 : decode b_V_letter 41 = .ok (.getfield 32, 3) := by decide +kernel
theorem d_V_letter_44 : decode b_V_letter 44 = .ok (.invokevirtual 93, 3) := by decide +kernel
theorem d_V_letter_47 : decode b_V_letter 47 = .ok (.if_icmp .ge 14, 3) := by decide +kernel
theorem d_V_letter_50 : decode b_V_letter 50 = .ok (.aload_n 0, 1) := by decide +kernel
theorem d_V_letter_51 : decode b_V_letter 51 = .ok (.getfield 32, 3) := by decide +kernel
theorem d_V_letter_54 : decode b_V_letter 54 = .ok (.iload_n 2, 1) := by decide +kernel
theorem d_V_letter_55 : decode b_V_letter 55 = .ok (.invokevirtual 96, 3) := by decide +kernel
theorem d_V_letter_58 : decode b_V_letter 58 = .ok (.goto 4, 3) := by decide +kernel
theorem d_V_letter_61 : decode b_V_letter 61 = .ok (.iconst (-1), 1) := by decide +kernel
theorem d_V_letter_62 : decode b_V_letter 62 = .ok (.ireturn, 1) := by decide +kernel
theorem d_V_about_0 : decode b_V_about 0 = .ok (.aload_n 0, 1) := by decide +kernel
theorem d_V_about_1 : decode b_V_about 1 = .ok (.getfield 41, 3) := by decide +kernel
theorem d_V_about_4 : decode b_V_about 4 = .ok (.invokevirtual 71, 3) := by decide +kernel
theorem d_V_about_7 : decode b_V_about 7 = .ok (.ifCond .eq 13, 3) := by decide +kernel
theorem d_V_about_10 : decode b_V_about 10 = .ok (.new 75, 3) := by decide +kernel
theorem d_V_about_13 : decode b_V_about 13 = .ok (.dup, 1) := by decide +kernel
theorem d_V_about_14 : decode b_V_about 14 = .ok (.ldc 77, 2) := by decide +kernel
theorem d_V_about_16 : decode b_V_about 16 = .ok (.invokespecial 79, 3) := by decide +kernel
theorem d_V_about_19 : decode b_V_about 19 = .ok (.athrow, 1) := by decide +kernel
theorem d_V_about_20 : decode b_V_about 20 = .ok (.aload_n 0, 1) := by decide +kernel
theorem d_V_about_21 : decode b_V_about 21 = .ok (.iload_n 1, 1) := by decide +kernel
theorem d_V_about_22 : decode b_V_about 22 = .ok (.invokevirtual 85, 3) := by decide +kernel
theorem d_V_about_25 : decode b_V_about 25 = .ok (.aload_n 0, 1) := by decide +kernel
theorem d_V_about_26 : decode b_V_about 26 = .ok (.getfield 32, 3) := by decide +kernel
theorem d_V_about_29 : decode b_V_about 29 = .ok (.invokevirtual 100, 3) := by decide +kernel
theorem d_V_about_32 : decode b_V_about 32 = .ok (.istore_n 3, 1) := by decide +kernel
theorem d_V_about_33 : decode b_V_about 33 = .ok (.iload_n 2, 1) := by decide +kernel
theorem d_V_about_34 : decode b_V_about 34 = .ok (.tableswitch 100 0 5 #[38, 41, 61, 70, 82, 94], 38) := by decide +kernel
theorem d_V_about_72 : decode b_V_about 72 = .ok (.iload_n 3, 1) := by decide +kernel
theorem d_V_about_73 : decode b_V_about 73 = .ok (.i2l, 1) := by decide +kernel
theorem d_V_about_74 : decode b_V_about 74 = .ok (.lreturn, 1) := by decide +kernel
theorem d_V_about_75 : decode b_V_about 75 = .ok (.aload_n 0, 1) := by decide +kernel
theorem d_V_about_76 : decode b_V_about 76 = .ok (.getfield 23, 3) := by decide +kernel
theorem d_V_about_79 : decode b_V_about 79 = .ok (.iload_n 3, 1) := by decide +kernel
theorem d_V_about_80 : decode b_V_about 80 = .ok (.invokevirtual 103, 3) := by decide +kernel
theorem d_V_about_83 : decode b_V_about 83 = .ok (.sipush 16384, 3) := by decide +kernel
theorem d_V_about_86 : decode b_V_about 86 = .ok (.if_icmp .ne 7, 3) := by decide +kernel
theorem d_V_about_89 : decode b_V_about 89 = .ok (.lconst 1, 1) := by decide +kernel
theorem d_V_about_90 : decode b_V_about 90 = .ok (.goto 4, 3) := by decide +kernel
theorem d_V_about_93 : decode b_V_about 93 = .ok (.lconst 0, 1) := by decide +kernel
theorem d_V_about_94 : decode b_V_about 94 = .ok (.lreturn, 1) := by decide +kernel
theorem d_V_about_95 : decode b_V_about 95 = .ok (.aload_n 0, 1) := by decide +kernel
theorem d_V_about_96 : decode b_V_about 96 = .ok (.getfield 23, 3) := by decide +kernel
theorem d_V_about_99 : decode b_V_about 99 = .ok (.iload_n 3, 1) := by decide +kernel
theorem d_V_about_100 : decode b_V_about 100 = .ok (.invokevirtual 106, 3) := by decide +kernel
theorem d_V_about_103 : decode b_V_about 103 = .ok (.lreturn, 1) := by decide +kernel
theorem d_V_about_104 : decode b_V_about 104 = .ok (.aload_n 0, 1) := by decide +kernel
theorem d_V_about_105 : decode b_V_about 105 = .ok (.getfield 23, 3) := by decide +kernel
theorem d_V_about_108 : decode b_V_about 108 = .ok (.iload_n 3, 1) := by decide +kernel
theorem d_V_about_109 : decode b_V_about 109 = .ok (.bipush 26, 2) := by decide +kernel
theorem d_V_about_111 : decode b_V_about 111 = .ok (.iconst 2, 1) := by decide +kernel
theorem d_V_about_112 : decode b_V_about 112 = .ok (.invokevirtual 110, 3) := by decide +kernel
theorem d_V_about_115 : decode b_V_about 115 = .ok (.lreturn, 1) := by decide +kernel
theorem d_V_about_116 : decode b_V_about 116 = .ok (.aload_n 0, 1) := by decide +kernel
theorem d_V_about_117 : decode b_V_about 117 = .ok (.getfield 23, 3) := by decide +kernel
theorem d_V_about_120 : decode b_V_about 120 = .ok (.iload_n 3, 1) := by decide +kernel
theorem d_V_about_121 : decode b_V_about 121 = .ok (.bipush 16, 2) := by decide +kernel
theorem d_V_about_123 : decode b_V_about 123 = .ok (.iconst 4, 1) := by decide +kernel
theorem d_V_about_124 : decode b_V_about 124 = .ok (.invokevirtual 110, 3) := by decide +kernel
theorem d_V_about_127 : decode b_V_about 127 = .ok (.lreturn, 1) := by decide +kernel
theorem d_V_about_128 : decode b_V_about 128 = .ok (.aload_n 0, 1) := by decide +kernel
theorem d_V_about_129 : decode b_V_about 129 = .ok (.iload_n 3, 1) := by decide +kernel
theorem d_V_about_130 : decode b_V_about 130 = .ok (.invokevirtual 114, 3) := by decide +kernel
theorem d_V_about_133 : decode b_V_about 133 = .ok (.lreturn, 1) := by decide +kernel
theorem d_V_about_134 : decode b_V_about 134 = .ok (.new 117, 3) := by decide +kernel
theorem d_V_about_137 : decode b_V_about 137 = .ok (.dup, 1) := by decide +kernel
theorem d_V_about_138 : decode b_V_about 138 = .ok (.ldc 119, 2) := by decide +kernel
theorem d_V_about_140 : decode b_V_about 140 = .ok (.invokespecial 121, 3) := by decide +kernel
theorem d_V_about_143 : decode b_V_about 143 = .ok (.athrow, 1) := by decide +kernel
theorem d_V_content_0 : decode b_V_content 0 = .ok (.aload_n 0, 1) := by decide +kernel
theorem d_V_content_1 : decode b_V_content 1 = .ok (.getfield 41, 3) := by decide +kernel
theorem d_V_content_4 : decode b_V_content 4 = .ok (.invokevirtual 71, 3) := by decide +kernel
theorem d_V_content_7 : decode b_V_content 7 = .ok (.ifCond .eq 13, 3) := by decide +kernel
theorem d_V_content_10 : decode b_V_content 10 = .ok (.new 75, 3) := by decide +kernel
theorem d_V_content_13 : decode b_V_content 13 = .ok (.dup, 1) := by decide +kernel
theorem d_V_content_14 : decode b_V_content 14 = .ok (.ldc 77, 2) := by decide +kernel
theorem d_V_content_16 : decode b_V_content 16 = .ok (.invokespecial 79, 3) := by decide +kernel
theorem d_V_content_19 : decode b_V_content 19 = .ok (.athrow, 1) := by decide +kernel
theorem d_V_content_20 : decode b_V_content 20 = .ok (.aload_n 0, 1) := by decide +kernel
theorem d_V_content_21 : decode b_V_content 21 = .ok (.iload_n 1, 1) := by decide +kernel
theorem d_V_content_22 : decode b_V_content 22 = .ok (.invokevirtual 85, 3) := by decide +kernel
theorem d_V_content_25 : decode b_V_content 25 = .ok (.aload_n 0, 1) := by decide +kernel
theorem d_V_content_26 : decode b_V_content 26 = .ok (.getfield 32, 3) := by decide +kernel
theorem d_V_content_29 : decode b_V_content 29 = .ok (.invokevirtual 100, 3) := by decide +kernel
theorem d_V_content_32 : decode b_V_content 32 = .ok (.istore_n 3, 1) := by decide +kernel
theorem d_V_content_33 : decode b_V_content 33 = .ok (.iload_n 2, 1) := by decide +kernel
theorem d_V_content_34 : decode b_V_content 34 = .ok (.ifCond .lt 17, 3) := by decide +kernel
theorem d_V_content_37 : decode b_V_content 37 = .ok (.iload_n 2, 1) := by decide +kernel
theorem d_V_content_38 : decode b_V_content 38 = .ok (.i2l, 1) := by decide +kernel
theorem d_V_content_39 : decode b_V_content 39 = .ok (.aload_n 0, 1) := by decide +kernel
theorem d_V_content_40 : decode b_V_content 40 = .ok (.getfield 23, 3) := by decide +kernel
theorem d_V_content_43 : decode b_V_content 43 = .ok (.iload_n 3, 1) := by decide +kernel
theorem d_V_content_44 : decode b_V_content 44 = .ok (.invokevirtual 106, 3) := by decide +kernel
theorem d_V_content_47 : decode b_V_content 47 = .ok (.lcmp, 1) := by decide +kernel
theorem d_V_content_48 : decode b_V_content 48 = .ok (.ifCond .lt 5, 3) := by decide +kernel
theorem d_V_content_51 : decode b_V_content 51 = .ok (.iconst (-1), 1) := by decide +kernel
theorem d_V_content_52 : decode b_V_content 52 = .ok (.ireturn, 1) := by decide +kernel
theorem d_V_content_53 : decode b_V_content 53 = .ok (.aload_n 0, 1) := by decide +kernel
theorem d_V_content_54 : decode b_V_content 54 = .ok (.getfield 14, 3) := by decide +kernel
theorem d_V_content_57 : decode b_V_content 57 = .ok (.ldc2_w 122, 3) := by decide +kernel
theorem d_V_content_60 : decode b_V_content 60 = .ok (.aload_n 0, 1) := by decide +kernel
theorem d_V_content_61 : decode b_V_content 61 = .ok (.getfield 23, 3) := by decide +kernel
theorem d_V_content_64 : decode b_V_content 64 = .ok (.iload_n 3, 1) := by decide +kernel
theorem d_V_content_65 : decode b_V_content 65 = .ok (.iload_n 2, 1) := by decide +kernel
theorem d_V_content_66 : decode b_V_content 66 = .ok (.sipush 1024, 3) := by decide +kernel
theorem d_V_content_69 : decode b_V_content 69 = .ok (.idiv, 1) := by decide +kernel
theorem d_V_content_70 : decode b_V_content 70 = .ok (.invokevirtual 124, 3) := by decide +kernel
theorem d_V_content_73 : decode b_V_content 73 = .ok (.lmul, 1) := by decide +kernel
theorem d_V_content_74 : decode b_V_content 74 = .ok (.iload_n 2, 1) := by decide +kernel
theorem d_V_content_75 : decode b_V_content 75 = .ok (.sipush 1024, 3) := by decide +kernel
theorem d_V_content_78 : decode b_V_content 78 = .ok (.irem, 1) := by decide +kernel
theorem d_V_content_79 : decode b_V_content 79 = .ok (.i2l, 1) := by decide +kernel
theorem d_V_content_80 : decode b_V_content 80 = .ok (.ladd, 1) := by decide +kernel
theorem d_V_content_81 : decode b_V_content 81 = .ok (.iconst 1, 1) := by decide +kernel
theorem d_V_content_82 : decode b_V_content 82 = .ok (.invokevirtual 67, 3) := by decide +kernel
theorem d_V_content_85 : decode b_V_content 85 = .ok (.l2i, 1) := by decide +kernel
theorem d_V_content_86 : decode b_V_content 86 = .ok (.ireturn, 1) := by decide +kernel
theorem d_V_enter_0 : decode b_V_enter 0 = .ok (.aload_n 0, 1) := by decide +kernel
theorem d_V_enter_1 : decode b_V_enter 1 = .ok (.getfield 41, 3) := by decide +kernel
theorem d_V_enter_4 : decode b_V_enter 4 = .ok (.invokevirtual 71, 3) := by decide +kernel
theorem d_V_enter_7 : decode b_V_enter 7 = .ok (.ifCond .eq 13, 3) := by decide +kernel
theorem d_V_enter_10 : decode b_V_enter 10 = .ok (.new 75, 3) := by decide +kernel
theorem d_V_enter_13 : decode b_V_enter 13 = .ok (.dup, 1) := by decide +kernel
theorem d_V_enter_14 : decode b_V_enter 14 = .ok (.ldc 77, 2) := by decide +kernel
theorem d_V_enter_16 : decode b_V_enter 16 = .ok (.invokespecial 79, 3) := by decide +kernel
theorem d_V_enter_19 : decode b_V_enter 19 = .ok (.athrow, 1) := by decide +kernel
theorem d_V_enter_20 : decode b_V_enter 20 = .ok (.aload_n 0, 1) := by decide +kernel
theorem d_V_enter_21 : decode b_V_enter 21 = .ok (.iload_n 1, 1) := by decide +kernel
theorem d_V_enter_22 : decode b_V_enter 22 = .ok (.invokevirtual 85, 3) := by decide +kernel
theorem d_V_enter_25 : decode b_V_enter 25 = .ok (.aload_n 0, 1) := by decide +kernel
theorem d_V_enter_26 : decode b_V_enter 26 = .ok (.getfield 32, 3) := by decide +kernel
theorem d_V_enter_29 : decode b_V_enter 29 = .ok (.invokevirtual 100, 3) := by decide +kernel
theorem d_V_enter_32 : decode b_V_enter 32 = .ok (.istore_n 2, 1) := by decide +kernel
theorem d_V_enter_33 : decode b_V_enter 33 = .ok (.aload_n 0, 1) := by decide +kernel
theorem d_V_enter_34 : decode b_V_enter 34 = .ok (.getfield 23, 3) := by decide +kernel
theorem d_V_enter_37 : decode b_V_enter 37 = .ok (.iload_n 2, 1) := by decide +kernel
theorem d_V_enter_38 : decode b_V_enter 38 = .ok (.invokevirtual 103, 3) := by decide +kernel
theorem d_V_enter_41 : decode b_V_enter 41 = .ok (.sipush 16384, 3) := by decide +kernel
theorem d_V_enter_44 : decode b_V_enter 44 = .ok (.if_icmp .eq 13, 3) := by decide +kernel
theorem d_V_enter_47 : decode b_V_enter 47 = .ok (.new 117, 3) := by decide +kernel
theorem d_V_enter_50 : decode b_V_enter 50 = .ok (.dup, 1) := by decide +kernel
theorem d_V_enter_51 : decode b_V_enter 51 = .ok (.ldc 128, 2) := by decide +kernel
theorem d_V_enter_53 : decode b_V_enter 53 = .ok (.invokespecial 121, 3) := by decide +kernel
theorem d_V_enter_56 : decode b_V_enter 56 = .ok (.athrow, 1) := by decide +kernel
theorem d_V_enter_57 : decode b_V_enter 57 = .ok (.aload_n 0, 1) := by decide +kernel
theorem d_V_enter_58 : decode b_V_enter 58 = .ok (.iload_n 2, 1) := by decide +kernel
theorem d_V_enter_59 : decode b_V_enter 59 = .ok (.putfield 45, 3) := by decide +kernel
theorem d_V_enter_62 : decode b_V_enter 62 = .ok (.aload_n 0, 1) := by decide +kernel
theorem d_V_enter_63 : decode b_V_enter 63 = .ok (.invokevirtual 82, 3) := by decide +kernel
theorem d_V_enter_66 : decode b_V_enter 66 = .ok (.ireturn, 1) := by decide +kernel
theorem d_V_up_0 : decode b_V_up 0 = .ok (.aload_n 0, 1) := by decide +kernel
theorem d_V_up_1 : decode b_V_up 1 = .ok (.getfield 41, 3) := by decide +kernel
theorem d_V_up_4 : decode b_V_up 4 = .ok (.invokevirtual 71, 3) := by decide +kernel
theorem d_V_up_7 : decode b_V_up 7 = .ok (.ifCond .eq 13, 3) := by decide +kernel
theorem d_V_up_10 : decode b_V_up 10 = .ok (.new 75, 3) := by decide +kernel
theorem d_V_up_13 : decode b_V_up 13 = .ok (.dup, 1) := by decide +kernel
theorem d_V_up_14 : decode b_V_up 14 = .ok (.ldc 77, 2) := by decide +kernel
theorem d_V_up_16 : decode b_V_up 16 = .ok (.invokespecial 79, 3) := by decide +kernel
theorem d_V_up_19 : decode b_V_up 19 = .ok (.athrow, 1) := by decide +kernel
theorem d_V_up_20 : decode b_V_up 20 = .ok (.aload_n 0, 1) := by decide +kernel
theorem d_V_up_21 : decode b_V_up 21 = .ok (.getfield 45, 3) := by decide +kernel
theorem d_V_up_24 : decode b_V_up 24 = .ok (.iconst 2, 1) := by decide +kernel
theorem d_V_up_25 : decode b_V_up 25 = .ok (.if_icmp .ne 5, 3) := by decide +kernel
theorem d_V_up_28 : decode b_V_up 28 = .ok (.iconst 0, 1) := by decide +kernel
theorem d_V_up_29 : decode b_V_up 29 = .ok (.ireturn, 1) := by decide +kernel
theorem d_V_up_30 : decode b_V_up 30 = .ok (.aload_n 0, 1) := by decide +kernel
theorem d_V_up_31 : decode b_V_up 31 = .ok (.getfield 32, 3) := by decide +kernel
theorem d_V_up_34 : decode b_V_up 34 = .ok (.aload_n 0, 1) := by decide +kernel
theorem d_V_up_35 : decode b_V_up 35 = .ok (.getfield 45, 3) := by decide +kernel
theorem d_V_up_38 : decode b_V_up 38 = .ok (.invokevirtual 130, 3) := by decide +kernel
theorem d_V_up_41 : decode b_V_up 41 = .ok (.aload_n 0, 1) := by decide +kernel
theorem d_V_up_42 : decode b_V_up 42 = .ok (.getfield 32, 3) := by decide +kernel
theorem d_V_up_45 : decode b_V_up 45 = .ok (.invokevirtual 133, 3) := by decide +kernel
theorem d_V_up_48 : decode b_V_up 48 = .ok (.aload_n 0, 1) := by decide +kernel
theorem d_V_up_49 : decode b_V_up 49 = .ok (.aload_n 0, 1) := by decide +kernel
theorem d_V_up_50 : decode b_V_up 50 = .ok (.getfield 32, 3) := by decide +kernel
theorem d_V_up_53 : decode b_V_up 53 = .ok (.invokevirtual 100, 3) := by decide +kernel
theorem d_V_up_56 : decode b_V_up 56 = .ok (.putfield 45, 3) := by decide +kernel
theorem d_V_up_59 : decode b_V_up 59 = .ok (.iconst 1, 1) := by decide +kernel
theorem d_V_up_60 : decode b_V_up 60 = .ok (.ireturn, 1) := by decide +kernel
