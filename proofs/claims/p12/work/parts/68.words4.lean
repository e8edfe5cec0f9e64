theorem tw_586 : Cond.classLink R_A 13 "java/lang/IllegalStateException" ∈ TB := inTB 586 (by decide +kernel) rfl
theorem tw_587 : Cond.methodLink R_A 7 y_V_items ∈ TB := inTB 587 (by decide +kernel) rfl
theorem tw_588 : Cond.instanceMethod y_V_items ∈ TB := inTB 588 (by decide +kernel) rfl
theorem tw_589 : Cond.selects R_V y_V_items y_V_items ∈ TB := inTB 589 (by decide +kernel) rfl
set_option maxRecDepth 100000 in
theorem tw_590 : Cond.code y_V_items prog_1_method_7_code 1 (some .int) ∈ TB := inTB 590 rfl rfl
theorem tw_671 : Cond.classLink R_A 19 "java/lang/IndexOutOfBoundsException" ∈ TB := inTB 671 (by decide +kernel) rfl
theorem tw_672 : Cond.methodLink R_A 15 y_V_letter ∈ TB := inTB 672 (by decide +kernel) rfl
theorem tw_673 : Cond.instanceMethod y_V_letter ∈ TB := inTB 673 (by decide +kernel) rfl
theorem tw_674 : Cond.selects R_V y_V_letter y_V_letter ∈ TB := inTB 674 (by decide +kernel) rfl
set_option maxRecDepth 100000 in
theorem tw_675 : Cond.code y_V_letter prog_1_method_8_code 3 (some .int) ∈ TB := inTB 675 rfl rfl
theorem tw_705 : Cond.classLink R_A 25 "java/lang/IllegalArgumentException" ∈ TB := inTB 705 (by decide +kernel) rfl
theorem tw_706 : Cond.methodLink R_A 21 y_V_about ∈ TB := inTB 706 (by decide +kernel) rfl
theorem tw_707 : Cond.instanceMethod y_V_about ∈ TB := inTB 707 (by decide +kernel) rfl
theorem tw_708 : Cond.selects R_V y_V_about y_V_about ∈ TB := inTB 708 (by decide +kernel) rfl
set_option maxRecDepth 100000 in
theorem tw_709 : Cond.code y_V_about prog_1_method_9_code 4 (some .long) ∈ TB := inTB 709 rfl rfl
theorem tw_739 : Cond.methodLink R_A 27 y_V_content ∈ TB := inTB 739 (by decide +kernel) rfl
theorem tw_740 : Cond.instanceMethod y_V_content ∈ TB := inTB 740 (by decide +kernel) rfl
theorem tw_741 : Cond.selects R_V y_V_content y_V_content ∈ TB := inTB 741 (by decide +kernel) rfl
set_option maxRecDepth 100000 in
theorem tw_742 : Cond.code y_V_content prog_1_method_10_code 4 (some .int) ∈ TB := inTB 742 rfl rfl
theorem tw_747 : Cond.methodLink R_A 30 y_V_enter ∈ TB := inTB 747 (by decide +kernel) rfl
theorem tw_748 : Cond.instanceMethod y_V_enter ∈ TB := inTB 748 (by decide +kernel) rfl
theorem tw_749 : Cond.selects R_V y_V_enter y_V_enter ∈ TB := inTB 749 (by decide +kernel) rfl
set_option maxRecDepth 100000 in
theorem tw_750 : Cond.code y_V_enter prog_1_method_11_code 3 (some .int) ∈ TB := inTB 750 rfl rfl
theorem tw_755 : Cond.methodLink R_A 34 y_V_up ∈ TB := inTB 755 (by decide +kernel) rfl
theorem tw_756 : Cond.instanceMethod y_V_up ∈ TB := inTB 756 (by decide +kernel) rfl
theorem tw_757 : Cond.selects R_V y_V_up y_V_up ∈ TB := inTB 757 (by decide +kernel) rfl
set_option maxRecDepth 100000 in
theorem tw_758 : Cond.code y_V_up prog_1_method_12_code 1 (some .boolean) ∈ TB := inTB 758 rfl rfl
theorem d_A_about_0 : decode b_A_about 0 = .ok (.aload_n 3, 1) := by decide +kernel
theorem d_A_about_1 : decode b_A_about 1 = .ok (.iconst 0, 1) := by decide +kernel
theorem d_A_about_2 : decode b_A_about 2 = .ok (.aload_n 0, 1) := by decide +kernel
theorem d_A_about_3 : decode b_A_about 3 = .ok (.iload_n 1, 1) := by decide +kernel
theorem d_A_about_4 : decode b_A_about 4 = .ok (.iload_n 2, 1) := by decide +kernel
theorem d_A_about_5 : decode b_A_about 5 = .ok (.invokevirtual 21, 3) := by decide +kernel
theorem d_A_about_8 : decode b_A_about 8 = .ok (.lastore, 1) := by decide +kernel
theorem d_A_about_9 : decode b_A_about 9 = .ok (.goto 15, 3) := by decide +kernel
theorem d_A_about_12 : decode b_A_about 12 = .ok (.astore 4, 2) := by decide +kernel
theorem d_A_about_14 : decode b_A_about 14 = .ok (.iconst 1, 1) := by decide +kernel
theorem d_A_about_15 : decode b_A_about 15 = .ok (.ireturn, 1) := by decide +kernel
theorem d_A_about_16 : decode b_A_about 16 = .ok (.astore 4, 2) := by decide +kernel
theorem d_A_about_18 : decode b_A_about 18 = .ok (.iconst 2, 1) := by decide +kernel
theorem d_A_about_19 : decode b_A_about 19 = .ok (.ireturn, 1) := by decide +kernel
theorem d_A_about_20 : decode b_A_about 20 = .ok (.astore 4, 2) := by decide +kernel
theorem d_A_about_22 : decode b_A_about 22 = .ok (.iconst 3, 1) := by decide +kernel
theorem d_A_about_23 : decode b_A_about 23 = .ok (.ireturn, 1) := by decide +kernel
theorem d_A_about_24 : decode b_A_about 24 = .ok (.iconst 0, 1) := by decide +kernel
theorem d_A_about_25 : decode b_A_about 25 = .ok (.ireturn, 1) := by decide +kernel
theorem d_A_cell_0 : decode b_A_cell 0 = .ok (.iload_n 1, 1) := by decide +kernel
theorem d_A_cell_1 : decode b_A_cell 1 = .ok (.aload_n 0, 1) := by decide +kernel
theorem d_A_cell_2 : decode b_A_cell 2 = .ok (.arraylength, 1) := by decide +kernel
theorem d_A_cell_3 : decode b_A_cell 3 = .ok (.if_icmp .ge 9, 3) := by decide +kernel
theorem d_A_cell_6 : decode b_A_cell 6 = .ok (.aload_n 0, 1) := by decide +kernel
theorem d_A_cell_7 : decode b_A_cell 7 = .ok (.iload_n 1, 1) := by decide +kernel
theorem d_A_cell_8 : decode b_A_cell 8 = .ok (.iaload, 1) := by decide +kernel
theorem d_A_cell_9 : decode b_A_cell 9 = .ok (.goto 4, 3) := by decide +kernel
theorem d_A_cell_12 : decode b_A_cell 12 = .ok (.iconst 0, 1) := by decide +kernel
theorem d_A_cell_13 : decode b_A_cell 13 = .ok (.ireturn, 1) := by decide +kernel
theorem d_A_content_0 : decode b_A_content 0 = .ok (.aload_n 3, 1) := by decide +kernel
theorem d_A_content_1 : decode b_A_content 1 = .ok (.iconst 0, 1) := by decide +kernel
theorem d_A_content_2 : decode b_A_content 2 = .ok (.aload_n 0, 1) := by decide +kernel
theorem d_A_content_3 : decode b_A_content 3 = .ok (.iload_n 1, 1) := by decide +kernel
theorem d_A_content_4 : decode b_A_content 4 = .ok (.iload_n 2, 1) := by decide +kernel
theorem d_A_content_5 : decode b_A_content 5 = .ok (.invokevirtual 27, 3) := by decide +kernel
theorem d_A_content_8 : decode b_A_content 8 = .ok (.i2l, 1) := by decide +kernel
theorem d_A_content_9 : decode b_A_content 9 = .ok (.lastore, 1) := by decide +kernel
theorem d_A_content_10 : decode b_A_content 10 = .ok (.goto 11, 3) := by decide +kernel
theorem d_A_content_13 : decode b_A_content 13 = .ok (.astore 4, 2) := by decide +kernel
theorem d_A_content_15 : decode b_A_content 15 = .ok (.iconst 1, 1) := by decide +kernel
theorem d_A_content_16 : decode b_A_content 16 = .ok (.ireturn, 1) := by decide +kernel
theorem d_A_content_17 : decode b_A_content 17 = .ok (.astore 4, 2) := by decide +kernel
theorem d_A_content_19 : decode b_A_content 19 = .ok (.iconst 2, 1) := by decide +kernel
theorem d_A_content_20 : decode b_A_content 20 = .ok (.ireturn, 1) := by decide +kernel
theorem d_A_content_21 : decode b_A_content 21 = .ok (.iconst 0, 1) := by decide +kernel
theorem d_A_content_22 : decode b_A_content 22 = .ok (.ireturn, 1) := by decide +kernel
theorem d_A_enter_0 : decode b_A_enter 0 = .ok (.aload_n 2, 1) := by decide +kernel
theorem d_A_enter_1 : decode b_A_enter 1 = .ok (.iconst 0, 1) := by decide +kernel
theorem d_A_enter_2 : decode b_A_enter 2 = .ok (.aload_n 0, 1) := by decide +kernel
theorem d_A_enter_3 : decode b_A_enter 3 = .ok (.iload_n 1, 1) := by decide +kernel
theorem d_A_enter_4 : decode b_A_enter 4 = .ok (.invokevirtual 30, 3) := by decide +kernel
theorem d_A_enter_7 : decode b_A_enter 7 = .ok (.i2l, 1) := by decide +kernel
theorem d_A_enter_8 : decode b_A_enter 8 = .ok (.lastore, 1) := by decide +kernel
theorem d_A_enter_9 : decode b_A_enter 9 = .ok (.goto 12, 3) := by decide +kernel
theorem d_A_enter_12 : decode b_A_enter 12 = .ok (.astore_n 3, 1) := by decide +kernel
theorem d_A_enter_13 : decode b_A_enter 13 = .ok (.iconst 1, 1) := by decide +kernel
theorem d_A_enter_14 : decode b_A_enter 14 = .ok (.ireturn, 1) := by decide +kernel
theorem d_A_enter_15 : decode b_A_enter 15 = .ok (.astore_n 3, 1) := by decide +kernel
theorem d_A_enter_16 : decode b_A_enter 16 = .ok (.iconst 2, 1) := by decide +kernel
theorem d_A_enter_17 : decode b_A_enter 17 = .ok (.ireturn, 1) := by decide +kernel
theorem d_A_enter_18 : decode b_A_enter 18 = .ok (.astore_n 3, 1) := by decide +kernel
theorem d_A_enter_19 : decode b_A_enter 19 = .ok (.iconst 3, 1) := by decide +kernel
theorem d_A_enter_20 : decode b_A_enter 20 = .ok (.ireturn, 1) := by decide +kernel
theorem d_A_enter_21 : decode b_A_enter 21 = .ok (.iconst 0, 1) := by decide +kernel
theorem d_A_enter_22 : decode b_A_enter 22 = .ok (.ireturn, 1) := by decide +kernel
theorem d_A_items_0 : decode b_A_items 0 = .ok (.aload_n 1, 1) := by decide +kernel
theorem d_A_items_1 : decode b_A_items 1 = .ok (.iconst 0, 1) := by decide +kernel
theorem d_A_items_2 : decode b_A_items 2 = .ok (.aload_n 0, 1) := by decide +kernel
theorem d_A_items_3 : decode b_A_items 3 = .ok (.invokevirtual 7, 3) := by decide +kernel
theorem d_A_items_6 : decode b_A_items 6 = .ok (.i2l, 1) := by decide +kernel
theorem d_A_items_7 : decode b_A_items 7 = .ok (.lastore, 1) := by decide +kernel
theorem d_A_items_8 : decode b_A_items 8 = .ok (.goto 6, 3) := by decide +kernel
theorem d_A_items_11 : decode b_A_items 11 = .ok (.astore_n 2, 1) := by decide +kernel
theorem d_A_items_12 : decode b_A_items 12 = .ok (.iconst 1, 1) := by decide +kernel
theorem d_A_items_13 : decode b_A_items 13 = .ok (.ireturn, 1) := by decide +kernel
theorem d_A_items_14 : decode b_A_items 14 = .ok (.iconst 0, 1) := by decide +kernel
theorem d_A_items_15 : decode b_A_items 15 = .ok (.ireturn, 1) := by decide +kernel
theorem d_A_letter_0 : decode b_A_letter 0 = .ok (.aload_n 3, 1) := by decide +kernel
theorem d_A_letter_1 : decode b_A_letter 1 = .ok (.iconst 0, 1) := by decide +kernel
theorem d_A_letter_2 : decode b_A_letter 2 = .ok (.aload_n 0, 1) := by decide +kernel
theorem d_A_letter_3 : decode b_A_letter 3 = .ok (.iload_n 1, 1) := by decide +kernel
theorem d_A_letter_4 : decode b_A_letter 4 = .ok (.iload_n 2, 1) := by decide +kernel
theorem d_A_letter_5 : decode b_A_letter 5 = .ok (.invokevirtual 15, 3) := by decide +kernel
theorem d_A_letter_8 : decode b_A_letter 8 = .ok (.i2l, 1) := by decide +kernel
theorem d_A_letter_9 : decode b_A_letter 9 = .ok (.lastore, 1) := by decide +kernel
theorem d_A_letter_10 : decode b_A_letter 10 = .ok (.goto 11, 3) := by decide +kernel
theorem d_A_letter_13 : decode b_A_letter 13 = .ok (.astore 4, 2) := by decide +kernel
theorem d_A_letter_15 : decode b_A_letter 15 = .ok (.iconst 1, 1) := by decide +kernel
theorem d_A_letter_16 : decode b_A_letter 16 = .ok (.ireturn, 1) := by decide +kernel
theorem d_A_letter_17 : decode b_A_letter 17 = .ok (.astore 4, 2) := by decide +kernel
theorem d_A_letter_19 : decode b_A_letter 19 = .ok (.iconst 2, 1) := by decide +kernel
theorem d_A_letter_20 : decode b_A_letter 20 = .ok (.ireturn, 1) := by decide +kernel
theorem d_A_letter_21 : decode b_A_letter 21 = .ok (.iconst 0, 1) := by decide +kernel
theorem d_A_letter_22 : decode b_A_letter 22 = .ok (.ireturn, 1) := by decide +kernel
theorem d_A_up_0 : decode b_A_up 0 = .ok (.aload_n 1, 1) := by decide +kernel
theorem d_A_up_1 : decode b_A_up 1 = .ok (.iconst 0, 1) := by decide +kernel
theorem d_A_up_2 : decode b_A_up 2 = .ok (.aload_n 0, 1) := by decide +kernel
theorem d_A_up_3 : decode b_A_up 3 = .ok (.invokevirtual 34, 3) := by decide +kernel
theorem d_A_up_6 : decode b_A_up 6 = .ok (.ifCond .eq 7, 3) := by decide +kernel
theorem d_A_up_9 : decode b_A_up 9 = .ok (.lconst 1, 1) := by decide +kernel
theorem d_A_up_10 : decode b_A_up 10 = .ok (.goto 4, 3) := by decide +kernel
theorem d_A_up_13 : decode b_A_up 13 = .ok (.lconst 0, 1) := by decide +kernel
theorem d_A_up_14 : decode b_A_up 14 = .ok (.lastore, 1) := by decide +kernel
theorem d_A_up_15 : decode b_A_up 15 = .ok (.goto 6, 3) := by decide +kernel
theorem d_A_up_18 : decode b_A_up 18 = .ok (.astore_n 2, 1) := by decide +kernel
theorem d_A_up_19 : decode b_A_up 19 = .ok (.iconst 1, 1) := by decide +kernel
theorem d_A_up_20 : decode b_A_up 20 = .ok (.ireturn, 1) := by decide +kernel
theorem d_A_up_21 : decode b_A_up 21 = .ok (.iconst 0, 1) := by decide +kernel
theorem d_A_up_22 : decode b_A_up 22 = .ok (.ireturn, 1) := by decide +kernel
