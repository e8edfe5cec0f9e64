section
/-- a private method of a class that the tables say can be made, by its rows of tables_1 -/
def lw_okq (q : MethodName × Nat) : Prop := (q.1.cls ≠ "java/lang/invoke/MethodHandle" ∧ q.1.cls ≠ "java/lang/invoke/VarHandle") ∧ Cond.instantiable q.1.cls q.2 ∈ tables_1 ∧ Cond.privateMethod q.1 ∈ tables_1 ∧ Cond.instanceMethod q.1 ∈ tables_1
theorem lw_p0 : lw_okq (⟨"InodeVolumes", "beginAgain", "()V"⟩, 5) := ⟨⟨by decide +kernel, by decide +kernel⟩, List.mem_of_getElem? (i := 16) (by decide +kernel), List.mem_of_getElem? (i := 171) (by decide +kernel), List.mem_of_getElem? (i := 172) (by decide +kernel)⟩
theorem lw_p1 : lw_okq (⟨"InodeVolumes$Survey", "superblockStands", "()Z"⟩, 10) := ⟨⟨by decide +kernel, by decide +kernel⟩, List.mem_of_getElem? (i := 104) (by decide +kernel), List.mem_of_getElem? (i := 214) (by decide +kernel), List.mem_of_getElem? (i := 215) (by decide +kernel)⟩
theorem lw_p2 : lw_okq (⟨"InodeVolumes$Survey", "superblockHas", "(IIJ)Z"⟩, 10) := ⟨⟨by decide +kernel, by decide +kernel⟩, List.mem_of_getElem? (i := 104) (by decide +kernel), List.mem_of_getElem? (i := 238) (by decide +kernel), List.mem_of_getElem? (i := 239) (by decide +kernel)⟩
theorem lw_p3 : lw_okq (⟨"InodeVolumes$Survey", "copiesStand", "()Z"⟩, 10) := ⟨⟨by decide +kernel, by decide +kernel⟩, List.mem_of_getElem? (i := 104) (by decide +kernel), List.mem_of_getElem? (i := 252) (by decide +kernel), List.mem_of_getElem? (i := 253) (by decide +kernel)⟩
theorem lw_p4 : lw_okq (⟨"InodeVolumes$Survey", "hasCopies", "(I)Z"⟩, 10) := ⟨⟨by decide +kernel, by decide +kernel⟩, List.mem_of_getElem? (i := 104) (by decide +kernel), List.mem_of_getElem? (i := 269) (by decide +kernel), List.mem_of_getElem? (i := 270) (by decide +kernel)⟩
theorem lw_p5 : lw_okq (⟨"InodeVolumes$Survey", "groupsStand", "()Z"⟩, 10) := ⟨⟨by decide +kernel, by decide +kernel⟩, List.mem_of_getElem? (i := 104) (by decide +kernel), List.mem_of_getElem? (i := 275) (by decide +kernel), List.mem_of_getElem? (i := 276) (by decide +kernel)⟩
theorem lw_p6 : lw_okq (⟨"InodeVolumes$Survey", "fix", "(II)V"⟩, 10) := ⟨⟨by decide +kernel, by decide +kernel⟩, List.mem_of_getElem? (i := 104) (by decide +kernel), List.mem_of_getElem? (i := 294) (by decide +kernel), List.mem_of_getElem? (i := 295) (by decide +kernel)⟩
theorem lw_p7 : lw_okq (⟨"InodeVolumes$Survey", "treeFault", "()I"⟩, 10) := ⟨⟨by decide +kernel, by decide +kernel⟩, List.mem_of_getElem? (i := 104) (by decide +kernel), List.mem_of_getElem? (i := 299) (by decide +kernel), List.mem_of_getElem? (i := 300) (by decide +kernel)⟩
theorem lw_p8 : lw_okq (⟨"InodeVolumes$Survey", "takeWhole", "(I)Z"⟩, 10) := ⟨⟨by decide +kernel, by decide +kernel⟩, List.mem_of_getElem? (i := 104) (by decide +kernel), List.mem_of_getElem? (i := 322) (by decide +kernel), List.mem_of_getElem? (i := 323) (by decide +kernel)⟩
theorem lw_p9 : lw_okq (⟨"InodeVolumes$Survey", "spareAreZero", "(II)Z"⟩, 10) := ⟨⟨by decide +kernel, by decide +kernel⟩, List.mem_of_getElem? (i := 104) (by decide +kernel), List.mem_of_getElem? (i := 339) (by decide +kernel), List.mem_of_getElem? (i := 340) (by decide +kernel)⟩
theorem lw_p10 : lw_okq (⟨"InodeVolumes$Survey", "take", "(J)Z"⟩, 10) := ⟨⟨by decide +kernel, by decide +kernel⟩, List.mem_of_getElem? (i := 104) (by decide +kernel), List.mem_of_getElem? (i := 348) (by decide +kernel), List.mem_of_getElem? (i := 349) (by decide +kernel)⟩
theorem lw_p11 : lw_okq (⟨"InodeVolumes$Survey", "standInLine", "(II)V"⟩, 10) := ⟨⟨by decide +kernel, by decide +kernel⟩, List.mem_of_getElem? (i := 104) (by decide +kernel), List.mem_of_getElem? (i := 359) (by decide +kernel), List.mem_of_getElem? (i := 360) (by decide +kernel)⟩
theorem lw_p12 : lw_okq (⟨"InodeVolumes$Survey", "entriesStand", "(II)Z"⟩, 10) := ⟨⟨by decide +kernel, by decide +kernel⟩, List.mem_of_getElem? (i := 104) (by decide +kernel), List.mem_of_getElem? (i := 363) (by decide +kernel), List.mem_of_getElem? (i := 364) (by decide +kernel)⟩
theorem lw_p13 : lw_okq (⟨"InodeVolumes$Survey", "entryStands", "(II)Z"⟩, 10) := ⟨⟨by decide +kernel, by decide +kernel⟩, List.mem_of_getElem? (i := 104) (by decide +kernel), List.mem_of_getElem? (i := 394) (by decide +kernel), List.mem_of_getElem? (i := 395) (by decide +kernel)⟩
theorem lw_p14 : lw_okq (⟨"InodeVolumes$Survey", "itemsComeUp", "(I)Z"⟩, 10) := ⟨⟨by decide +kernel, by decide +kernel⟩, List.mem_of_getElem? (i := 104) (by decide +kernel), List.mem_of_getElem? (i := 444) (by decide +kernel), List.mem_of_getElem? (i := 445) (by decide +kernel)⟩
theorem lw_p15 : lw_okq (⟨"InodeVolumes$Survey", "isKnown", "(I)Z"⟩, 10) := ⟨⟨by decide +kernel, by decide +kernel⟩, List.mem_of_getElem? (i := 104) (by decide +kernel), List.mem_of_getElem? (i := 452) (by decide +kernel), List.mem_of_getElem? (i := 453) (by decide +kernel)⟩
def lw_privs_1 : List (MethodName × Nat) := [(⟨"InodeVolumes", "beginAgain", "()V"⟩, 5), (⟨"InodeVolumes$Survey", "superblockStands", "()Z"⟩, 10), (⟨"InodeVolumes$Survey", "superblockHas", "(IIJ)Z"⟩, 10), (⟨"InodeVolumes$Survey", "copiesStand", "()Z"⟩, 10), (⟨"InodeVolumes$Survey", "hasCopies", "(I)Z"⟩, 10), (⟨"InodeVolumes$Survey", "groupsStand", "()Z"⟩, 10), (⟨"InodeVolumes$Survey", "fix", "(II)V"⟩, 10), (⟨"InodeVolumes$Survey", "treeFault", "()I"⟩, 10), (⟨"InodeVolumes$Survey", "takeWhole", "(I)Z"⟩, 10), (⟨"InodeVolumes$Survey", "spareAreZero", "(II)Z"⟩, 10), (⟨"InodeVolumes$Survey", "take", "(J)Z"⟩, 10), (⟨"InodeVolumes$Survey", "standInLine", "(II)V"⟩, 10), (⟨"InodeVolumes$Survey", "entriesStand", "(II)Z"⟩, 10), (⟨"InodeVolumes$Survey", "entryStands", "(II)Z"⟩, 10), (⟨"InodeVolumes$Survey", "itemsComeUp", "(I)Z"⟩, 10), (⟨"InodeVolumes$Survey", "isKnown", "(I)Z"⟩, 10)]
theorem lw_r1 : ∀ q ∈ lw_privs_1, lw_okq q := List.forall_mem_cons.mpr ⟨lw_p0, List.forall_mem_cons.mpr ⟨lw_p1, List.forall_mem_cons.mpr ⟨lw_p2, List.forall_mem_cons.mpr ⟨lw_p3, List.forall_mem_cons.mpr ⟨lw_p4, List.forall_mem_cons.mpr ⟨lw_p5, List.forall_mem_cons.mpr ⟨lw_p6, List.forall_mem_cons.mpr ⟨lw_p7, List.forall_mem_cons.mpr ⟨lw_p8, List.forall_mem_cons.mpr ⟨lw_p9, List.forall_mem_cons.mpr ⟨lw_p10, List.forall_mem_cons.mpr ⟨lw_p11, List.forall_mem_cons.mpr ⟨lw_p12, List.forall_mem_cons.mpr ⟨lw_p13, List.forall_mem_cons.mpr ⟨lw_p14, List.forall_mem_cons.mpr ⟨lw_p15, fun _ h => absurd h List.not_mem_nil⟩⟩⟩⟩⟩⟩⟩⟩⟩⟩⟩⟩⟩⟩⟩⟩
theorem lw_p16 : lw_okq (⟨"InodeVolumes$Survey", "lateFault", "()I"⟩, 10) := ⟨⟨by decide +kernel, by decide +kernel⟩, List.mem_of_getElem? (i := 104) (by decide +kernel), List.mem_of_getElem? (i := 456) (by decide +kernel), List.mem_of_getElem? (i := 457) (by decide +kernel)⟩
theorem lw_p17 : lw_okq (⟨"InodeVolumes$Survey", "linksStand", "()Z"⟩, 10) := ⟨⟨by decide +kernel, by decide +kernel⟩, List.mem_of_getElem? (i := 104) (by decide +kernel), List.mem_of_getElem? (i := 460) (by decide +kernel), List.mem_of_getElem? (i := 461) (by decide +kernel)⟩
theorem lw_p18 : lw_okq (⟨"InodeVolumes$Survey", "inodesStand", "()Z"⟩, 10) := ⟨⟨by decide +kernel, by decide +kernel⟩, List.mem_of_getElem? (i := 104) (by decide +kernel), List.mem_of_getElem? (i := 464) (by decide +kernel), List.mem_of_getElem? (i := 465) (by decide +kernel)⟩
theorem lw_p19 : lw_okq (⟨"InodeVolumes$Survey", "isBlank", "(I)Z"⟩, 10) := ⟨⟨by decide +kernel, by decide +kernel⟩, List.mem_of_getElem? (i := 104) (by decide +kernel), List.mem_of_getElem? (i := 468) (by decide +kernel), List.mem_of_getElem? (i := 469) (by decide +kernel)⟩
theorem lw_p20 : lw_okq (⟨"InodeVolumes$Survey", "mapsStand", "()Z"⟩, 10) := ⟨⟨by decide +kernel, by decide +kernel⟩, List.mem_of_getElem? (i := 104) (by decide +kernel), List.mem_of_getElem? (i := 472) (by decide +kernel), List.mem_of_getElem? (i := 473) (by decide +kernel)⟩
theorem lw_p21 : lw_okq (⟨"InodeVolumes$Survey", "blockMapStands", "(I)Z"⟩, 10) := ⟨⟨by decide +kernel, by decide +kernel⟩, List.mem_of_getElem? (i := 104) (by decide +kernel), List.mem_of_getElem? (i := 476) (by decide +kernel), List.mem_of_getElem? (i := 477) (by decide +kernel)⟩
theorem lw_p22 : lw_okq (⟨"InodeVolumes$Survey", "isTaken", "(I)Z"⟩, 10) := ⟨⟨by decide +kernel, by decide +kernel⟩, List.mem_of_getElem? (i := 104) (by decide +kernel), List.mem_of_getElem? (i := 488) (by decide +kernel), List.mem_of_getElem? (i := 489) (by decide +kernel)⟩
theorem lw_p23 : lw_okq (⟨"InodeVolumes$Survey", "freeBlocks", "(I)I"⟩, 10) := ⟨⟨by decide +kernel, by decide +kernel⟩, List.mem_of_getElem? (i := 104) (by decide +kernel), List.mem_of_getElem? (i := 501) (by decide +kernel), List.mem_of_getElem? (i := 502) (by decide +kernel)⟩
theorem lw_p24 : lw_okq (⟨"InodeVolumes$Survey", "freeInodes", "(I)I"⟩, 10) := ⟨⟨by decide +kernel, by decide +kernel⟩, List.mem_of_getElem? (i := 104) (by decide +kernel), List.mem_of_getElem? (i := 505) (by decide +kernel), List.mem_of_getElem? (i := 506) (by decide +kernel)⟩
theorem lw_p25 : lw_okq (⟨"InodeVolumes$Survey", "directories", "(I)I"⟩, 10) := ⟨⟨by decide +kernel, by decide +kernel⟩, List.mem_of_getElem? (i := 104) (by decide +kernel), List.mem_of_getElem? (i := 509) (by decide +kernel), List.mem_of_getElem? (i := 510) (by decide +kernel)⟩
theorem lw_p26 : lw_okq (⟨"java/lang/Throwable", "fillInStackTrace", "(I)Ljava/lang/Throwable;"⟩, 6) := ⟨⟨by decide +kernel, by decide +kernel⟩, List.mem_of_getElem? (i := 563) (by decide +kernel), List.mem_of_getElem? (i := 561) (by decide +kernel), List.mem_of_getElem? (i := 562) (by decide +kernel)⟩
theorem lw_p27 : lw_okq (⟨"InodeVolumes", "countItems", "()I"⟩, 5) := ⟨⟨by decide +kernel, by decide +kernel⟩, List.mem_of_getElem? (i := 16) (by decide +kernel), List.mem_of_getElem? (i := 593) (by decide +kernel), List.mem_of_getElem? (i := 594) (by decide +kernel)⟩
theorem lw_p28 : lw_okq (⟨"InodeVolumes", "seekItem", "(I)V"⟩, 5) := ⟨⟨by decide +kernel, by decide +kernel⟩, List.mem_of_getElem? (i := 16) (by decide +kernel), List.mem_of_getElem? (i := 610) (by decide +kernel), List.mem_of_getElem? (i := 611) (by decide +kernel)⟩
theorem lw_p29 : lw_okq (⟨"InodeVolumes", "lastBlock", "(I)J"⟩, 5) := ⟨⟨by decide +kernel, by decide +kernel⟩, List.mem_of_getElem? (i := 16) (by decide +kernel), List.mem_of_getElem? (i := 648) (by decide +kernel), List.mem_of_getElem? (i := 649) (by decide +kernel)⟩
theorem lw_p30 : lw_okq (⟨"InodeVolumesModel", "isThere", "(JJ)Z"⟩, 19) := ⟨⟨by decide +kernel, by decide +kernel⟩, List.mem_of_getElem? (i := 693) (by decide +kernel), List.mem_of_getElem? (i := 767) (by decide +kernel), List.mem_of_getElem? (i := 768) (by decide +kernel)⟩
theorem lw_p31 : lw_okq (⟨"InodeVolumesModel", "changed", "()Z"⟩, 19) := ⟨⟨by decide +kernel, by decide +kernel⟩, List.mem_of_getElem? (i := 693) (by decide +kernel), List.mem_of_getElem? (i := 772) (by decide +kernel), List.mem_of_getElem? (i := 773) (by decide +kernel)⟩
def lw_privs_2 : List (MethodName × Nat) := [(⟨"InodeVolumes$Survey", "lateFault", "()I"⟩, 10), (⟨"InodeVolumes$Survey", "linksStand", "()Z"⟩, 10), (⟨"InodeVolumes$Survey", "inodesStand", "()Z"⟩, 10), (⟨"InodeVolumes$Survey", "isBlank", "(I)Z"⟩, 10), (⟨"InodeVolumes$Survey", "mapsStand", "()Z"⟩, 10), (⟨"InodeVolumes$Survey", "blockMapStands", "(I)Z"⟩, 10), (⟨"InodeVolumes$Survey", "isTaken", "(I)Z"⟩, 10), (⟨"InodeVolumes$Survey", "freeBlocks", "(I)I"⟩, 10), (⟨"InodeVolumes$Survey", "freeInodes", "(I)I"⟩, 10), (⟨"InodeVolumes$Survey", "directories", "(I)I"⟩, 10), (⟨"java/lang/Throwable", "fillInStackTrace", "(I)Ljava/lang/Throwable;"⟩, 6), (⟨"InodeVolumes", "countItems", "()I"⟩, 5), (⟨"InodeVolumes", "seekItem", "(I)V"⟩, 5), (⟨"InodeVolumes", "lastBlock", "(I)J"⟩, 5), (⟨"InodeVolumesModel", "isThere", "(JJ)Z"⟩, 19), (⟨"InodeVolumesModel", "changed", "()Z"⟩, 19)]
theorem lw_r2 : ∀ q ∈ lw_privs_2, lw_okq q := List.forall_mem_cons.mpr ⟨lw_p16, List.forall_mem_cons.mpr ⟨lw_p17, List.forall_mem_cons.mpr ⟨lw_p18, List.forall_mem_cons.mpr ⟨lw_p19, List.forall_mem_cons.mpr ⟨lw_p20, List.forall_mem_cons.mpr ⟨lw_p21, List.forall_mem_cons.mpr ⟨lw_p22, List.forall_mem_cons.mpr ⟨lw_p23, List.forall_mem_cons.mpr ⟨lw_p24, List.forall_mem_cons.mpr ⟨lw_p25, List.forall_mem_cons.mpr ⟨lw_p26, List.forall_mem_cons.mpr ⟨lw_p27, List.forall_mem_cons.mpr ⟨lw_p28, List.forall_mem_cons.mpr ⟨lw_p29, List.forall_mem_cons.mpr ⟨lw_p30, List.forall_mem_cons.mpr ⟨lw_p31, fun _ h => absurd h List.not_mem_nil⟩⟩⟩⟩⟩⟩⟩⟩⟩⟩⟩⟩⟩⟩⟩⟩
theorem lw_p32 : lw_okq (⟨"InodeVolumesModel", "one", "(I)I"⟩, 19) := ⟨⟨by decide +kernel, by decide +kernel⟩, List.mem_of_getElem? (i := 693) (by decide +kernel), List.mem_of_getElem? (i := 788) (by decide +kernel), List.mem_of_getElem? (i := 789) (by decide +kernel)⟩
theorem lw_p33 : lw_okq (⟨"InodeVolumesModel", "look", "()V"⟩, 19) := ⟨⟨by decide +kernel, by decide +kernel⟩, List.mem_of_getElem? (i := 693) (by decide +kernel), List.mem_of_getElem? (i := 796) (by decide +kernel), List.mem_of_getElem? (i := 797) (by decide +kernel)⟩
theorem lw_p34 : lw_okq (⟨"InodeVolumesModel", "firstFault", "()I"⟩, 19) := ⟨⟨by decide +kernel, by decide +kernel⟩, List.mem_of_getElem? (i := 693) (by decide +kernel), List.mem_of_getElem? (i := 800) (by decide +kernel), List.mem_of_getElem? (i := 801) (by decide +kernel)⟩
theorem lw_p35 : lw_okq (⟨"InodeVolumesModel", "badHead", "()Z"⟩, 19) := ⟨⟨by decide +kernel, by decide +kernel⟩, List.mem_of_getElem? (i := 693) (by decide +kernel), List.mem_of_getElem? (i := 804) (by decide +kernel), List.mem_of_getElem? (i := 805) (by decide +kernel)⟩
theorem lw_p36 : lw_okq (⟨"InodeVolumesModel", "four", "(I)J"⟩, 19) := ⟨⟨by decide +kernel, by decide +kernel⟩, List.mem_of_getElem? (i := 693) (by decide +kernel), List.mem_of_getElem? (i := 808) (by decide +kernel), List.mem_of_getElem? (i := 809) (by decide +kernel)⟩
theorem lw_p37 : lw_okq (⟨"InodeVolumesModel", "two", "(I)I"⟩, 19) := ⟨⟨by decide +kernel, by decide +kernel⟩, List.mem_of_getElem? (i := 693) (by decide +kernel), List.mem_of_getElem? (i := 812) (by decide +kernel), List.mem_of_getElem? (i := 813) (by decide +kernel)⟩
theorem lw_p38 : lw_okq (⟨"InodeVolumesModel", "badCopies", "()Z"⟩, 19) := ⟨⟨by decide +kernel, by decide +kernel⟩, List.mem_of_getElem? (i := 693) (by decide +kernel), List.mem_of_getElem? (i := 825) (by decide +kernel), List.mem_of_getElem? (i := 826) (by decide +kernel)⟩
theorem lw_p39 : lw_okq (⟨"InodeVolumesModel", "sizeOf", "(I)I"⟩, 19) := ⟨⟨by decide +kernel, by decide +kernel⟩, List.mem_of_getElem? (i := 693) (by decide +kernel), List.mem_of_getElem? (i := 829) (by decide +kernel), List.mem_of_getElem? (i := 830) (by decide +kernel)⟩
theorem lw_p40 : lw_okq (⟨"InodeVolumesModel", "begin", "(I)I"⟩, 19) := ⟨⟨by decide +kernel, by decide +kernel⟩, List.mem_of_getElem? (i := 693) (by decide +kernel), List.mem_of_getElem? (i := 833) (by decide +kernel), List.mem_of_getElem? (i := 834) (by decide +kernel)⟩
theorem lw_p41 : lw_okq (⟨"InodeVolumesModel", "badMaps", "()Z"⟩, 19) := ⟨⟨by decide +kernel, by decide +kernel⟩, List.mem_of_getElem? (i := 693) (by decide +kernel), List.mem_of_getElem? (i := 837) (by decide +kernel), List.mem_of_getElem? (i := 838) (by decide +kernel)⟩
theorem lw_p42 : lw_okq (⟨"InodeVolumesModel", "fixes", "(I)Z"⟩, 19) := ⟨⟨by decide +kernel, by decide +kernel⟩, List.mem_of_getElem? (i := 693) (by decide +kernel), List.mem_of_getElem? (i := 841) (by decide +kernel), List.mem_of_getElem? (i := 842) (by decide +kernel)⟩
theorem lw_p43 : lw_okq (⟨"InodeVolumesModel", "tree", "()I"⟩, 19) := ⟨⟨by decide +kernel, by decide +kernel⟩, List.mem_of_getElem? (i := 693) (by decide +kernel), List.mem_of_getElem? (i := 845) (by decide +kernel), List.mem_of_getElem? (i := 846) (by decide +kernel)⟩
theorem lw_p44 : lw_okq (⟨"InodeVolumesModel", "isUsed", "(I)Z"⟩, 19) := ⟨⟨by decide +kernel, by decide +kernel⟩, List.mem_of_getElem? (i := 693) (by decide +kernel), List.mem_of_getElem? (i := 849) (by decide +kernel), List.mem_of_getElem? (i := 850) (by decide +kernel)⟩
theorem lw_p45 : lw_okq (⟨"InodeVolumesModel", "bit", "(II)Z"⟩, 19) := ⟨⟨by decide +kernel, by decide +kernel⟩, List.mem_of_getElem? (i := 693) (by decide +kernel), List.mem_of_getElem? (i := 853) (by decide +kernel), List.mem_of_getElem? (i := 854) (by decide +kernel)⟩
theorem lw_p46 : lw_okq (⟨"InodeVolumesModel", "typeOf", "(I)I"⟩, 19) := ⟨⟨by decide +kernel, by decide +kernel⟩, List.mem_of_getElem? (i := 693) (by decide +kernel), List.mem_of_getElem? (i := 857) (by decide +kernel), List.mem_of_getElem? (i := 858) (by decide +kernel)⟩
theorem lw_p47 : lw_okq (⟨"InodeVolumesModel", "inodeAt", "(I)I"⟩, 19) := ⟨⟨by decide +kernel, by decide +kernel⟩, List.mem_of_getElem? (i := 693) (by decide +kernel), List.mem_of_getElem? (i := 861) (by decide +kernel), List.mem_of_getElem? (i := 862) (by decide +kernel)⟩
def lw_privs_3 : List (MethodName × Nat) := [(⟨"InodeVolumesModel", "one", "(I)I"⟩, 19), (⟨"InodeVolumesModel", "look", "()V"⟩, 19), (⟨"InodeVolumesModel", "firstFault", "()I"⟩, 19), (⟨"InodeVolumesModel", "badHead", "()Z"⟩, 19), (⟨"InodeVolumesModel", "four", "(I)J"⟩, 19), (⟨"InodeVolumesModel", "two", "(I)I"⟩, 19), (⟨"InodeVolumesModel", "badCopies", "()Z"⟩, 19), (⟨"InodeVolumesModel", "sizeOf", "(I)I"⟩, 19), (⟨"InodeVolumesModel", "begin", "(I)I"⟩, 19), (⟨"InodeVolumesModel", "badMaps", "()Z"⟩, 19), (⟨"InodeVolumesModel", "fixes", "(I)Z"⟩, 19), (⟨"InodeVolumesModel", "tree", "()I"⟩, 19), (⟨"InodeVolumesModel", "isUsed", "(I)Z"⟩, 19), (⟨"InodeVolumesModel", "bit", "(II)Z"⟩, 19), (⟨"InodeVolumesModel", "typeOf", "(I)I"⟩, 19), (⟨"InodeVolumesModel", "inodeAt", "(I)I"⟩, 19)]
theorem lw_r3 : ∀ q ∈ lw_privs_3, lw_okq q := List.forall_mem_cons.mpr ⟨lw_p32, List.forall_mem_cons.mpr ⟨lw_p33, List.forall_mem_cons.mpr ⟨lw_p34, List.forall_mem_cons.mpr ⟨lw_p35, List.forall_mem_cons.mpr ⟨lw_p36, List.forall_mem_cons.mpr ⟨lw_p37, List.forall_mem_cons.mpr ⟨lw_p38, List.forall_mem_cons.mpr ⟨lw_p39, List.forall_mem_cons.mpr ⟨lw_p40, List.forall_mem_cons.mpr ⟨lw_p41, List.forall_mem_cons.mpr ⟨lw_p42, List.forall_mem_cons.mpr ⟨lw_p43, List.forall_mem_cons.mpr ⟨lw_p44, List.forall_mem_cons.mpr ⟨lw_p45, List.forall_mem_cons.mpr ⟨lw_p46, List.forall_mem_cons.mpr ⟨lw_p47, fun _ h => absurd h List.not_mem_nil⟩⟩⟩⟩⟩⟩⟩⟩⟩⟩⟩⟩⟩⟩⟩⟩
theorem lw_p48 : lw_okq (⟨"InodeVolumesModel", "isWhole", "(I)Z"⟩, 19) := ⟨⟨by decide +kernel, by decide +kernel⟩, List.mem_of_getElem? (i := 693) (by decide +kernel), List.mem_of_getElem? (i := 866) (by decide +kernel), List.mem_of_getElem? (i := 867) (by decide +kernel)⟩
theorem lw_p49 : lw_okq (⟨"InodeVolumesModel", "sizeOfInode", "(I)J"⟩, 19) := ⟨⟨by decide +kernel, by decide +kernel⟩, List.mem_of_getElem? (i := 693) (by decide +kernel), List.mem_of_getElem? (i := 870) (by decide +kernel), List.mem_of_getElem? (i := 871) (by decide +kernel)⟩
theorem lw_p50 : lw_okq (⟨"InodeVolumesModel", "pointer", "(II)J"⟩, 19) := ⟨⟨by decide +kernel, by decide +kernel⟩, List.mem_of_getElem? (i := 693) (by decide +kernel), List.mem_of_getElem? (i := 877) (by decide +kernel), List.mem_of_getElem? (i := 878) (by decide +kernel)⟩
theorem lw_p51 : lw_okq (⟨"InodeVolumesModel", "takes", "(J)Z"⟩, 19) := ⟨⟨by decide +kernel, by decide +kernel⟩, List.mem_of_getElem? (i := 693) (by decide +kernel), List.mem_of_getElem? (i := 881) (by decide +kernel), List.mem_of_getElem? (i := 882) (by decide +kernel)⟩
theorem lw_p52 : lw_okq (⟨"InodeVolumesModel", "blockOf", "(II)J"⟩, 19) := ⟨⟨by decide +kernel, by decide +kernel⟩, List.mem_of_getElem? (i := 693) (by decide +kernel), List.mem_of_getElem? (i := 885) (by decide +kernel), List.mem_of_getElem? (i := 886) (by decide +kernel)⟩
theorem lw_p53 : lw_okq (⟨"InodeVolumesModel", "comes", "(II)V"⟩, 19) := ⟨⟨by decide +kernel, by decide +kernel⟩, List.mem_of_getElem? (i := 693) (by decide +kernel), List.mem_of_getElem? (i := 889) (by decide +kernel), List.mem_of_getElem? (i := 890) (by decide +kernel)⟩
theorem lw_p54 : lw_okq (⟨"InodeVolumesModel", "badEntries", "(I)Z"⟩, 19) := ⟨⟨by decide +kernel, by decide +kernel⟩, List.mem_of_getElem? (i := 693) (by decide +kernel), List.mem_of_getElem? (i := 893) (by decide +kernel), List.mem_of_getElem? (i := 894) (by decide +kernel)⟩
theorem lw_p55 : lw_okq (⟨"InodeVolumesModel", "isEntry", "(IIII)Z"⟩, 19) := ⟨⟨by decide +kernel, by decide +kernel⟩, List.mem_of_getElem? (i := 693) (by decide +kernel), List.mem_of_getElem? (i := 897) (by decide +kernel), List.mem_of_getElem? (i := 898) (by decide +kernel)⟩
theorem lw_p56 : lw_okq (⟨"InodeVolumesModel", "lengthAt", "(I)I"⟩, 19) := ⟨⟨by decide +kernel, by decide +kernel⟩, List.mem_of_getElem? (i := 693) (by decide +kernel), List.mem_of_getElem? (i := 901) (by decide +kernel), List.mem_of_getElem? (i := 902) (by decide +kernel)⟩
theorem lw_p57 : lw_okq (⟨"InodeVolumesModel", "nameSize", "(I)I"⟩, 19) := ⟨⟨by decide +kernel, by decide +kernel⟩, List.mem_of_getElem? (i := 693) (by decide +kernel), List.mem_of_getElem? (i := 905) (by decide +kernel), List.mem_of_getElem? (i := 906) (by decide +kernel)⟩
theorem lw_p58 : lw_okq (⟨"InodeVolumesModel", "isDots", "(II)Z"⟩, 19) := ⟨⟨by decide +kernel, by decide +kernel⟩, List.mem_of_getElem? (i := 693) (by decide +kernel), List.mem_of_getElem? (i := 909) (by decide +kernel), List.mem_of_getElem? (i := 910) (by decide +kernel)⟩
theorem lw_p59 : lw_okq (⟨"InodeVolumesModel", "finds", "(II)Z"⟩, 19) := ⟨⟨by decide +kernel, by decide +kernel⟩, List.mem_of_getElem? (i := 693) (by decide +kernel), List.mem_of_getElem? (i := 914) (by decide +kernel), List.mem_of_getElem? (i := 915) (by decide +kernel)⟩
theorem lw_p60 : lw_okq (⟨"InodeVolumesModel", "badLinks", "()Z"⟩, 19) := ⟨⟨by decide +kernel, by decide +kernel⟩, List.mem_of_getElem? (i := 693) (by decide +kernel), List.mem_of_getElem? (i := 918) (by decide +kernel), List.mem_of_getElem? (i := 919) (by decide +kernel)⟩
theorem lw_p61 : lw_okq (⟨"InodeVolumesModel", "badInodes", "()Z"⟩, 19) := ⟨⟨by decide +kernel, by decide +kernel⟩, List.mem_of_getElem? (i := 693) (by decide +kernel), List.mem_of_getElem? (i := 922) (by decide +kernel), List.mem_of_getElem? (i := 923) (by decide +kernel)⟩
theorem lw_p62 : lw_okq (⟨"InodeVolumesModel", "badCounts", "()Z"⟩, 19) := ⟨⟨by decide +kernel, by decide +kernel⟩, List.mem_of_getElem? (i := 693) (by decide +kernel), List.mem_of_getElem? (i := 926) (by decide +kernel), List.mem_of_getElem? (i := 927) (by decide +kernel)⟩
theorem lw_p63 : lw_okq (⟨"InodeVolumesModel", "none", "()Z"⟩, 19) := ⟨⟨by decide +kernel, by decide +kernel⟩, List.mem_of_getElem? (i := 693) (by decide +kernel), List.mem_of_getElem? (i := 934) (by decide +kernel), List.mem_of_getElem? (i := 935) (by decide +kernel)⟩
def lw_privs_4 : List (MethodName × Nat) := [(⟨"InodeVolumesModel", "isWhole", "(I)Z"⟩, 19), (⟨"InodeVolumesModel", "sizeOfInode", "(I)J"⟩, 19), (⟨"InodeVolumesModel", "pointer", "(II)J"⟩, 19), (⟨"InodeVolumesModel", "takes", "(J)Z"⟩, 19), (⟨"InodeVolumesModel", "blockOf", "(II)J"⟩, 19), (⟨"InodeVolumesModel", "comes", "(II)V"⟩, 19), (⟨"InodeVolumesModel", "badEntries", "(I)Z"⟩, 19), (⟨"InodeVolumesModel", "isEntry", "(IIII)Z"⟩, 19), (⟨"InodeVolumesModel", "lengthAt", "(I)I"⟩, 19), (⟨"InodeVolumesModel", "nameSize", "(I)I"⟩, 19), (⟨"InodeVolumesModel", "isDots", "(II)Z"⟩, 19), (⟨"InodeVolumesModel", "finds", "(II)Z"⟩, 19), (⟨"InodeVolumesModel", "badLinks", "()Z"⟩, 19), (⟨"InodeVolumesModel", "badInodes", "()Z"⟩, 19), (⟨"InodeVolumesModel", "badCounts", "()Z"⟩, 19), (⟨"InodeVolumesModel", "none", "()Z"⟩, 19)]
theorem lw_r4 : ∀ q ∈ lw_privs_4, lw_okq q := List.forall_mem_cons.mpr ⟨lw_p48, List.forall_mem_cons.mpr ⟨lw_p49, List.forall_mem_cons.mpr ⟨lw_p50, List.forall_mem_cons.mpr ⟨lw_p51, List.forall_mem_cons.mpr ⟨lw_p52, List.forall_mem_cons.mpr ⟨lw_p53, List.forall_mem_cons.mpr ⟨lw_p54, List.forall_mem_cons.mpr ⟨lw_p55, List.forall_mem_cons.mpr ⟨lw_p56, List.forall_mem_cons.mpr ⟨lw_p57, List.forall_mem_cons.mpr ⟨lw_p58, List.forall_mem_cons.mpr ⟨lw_p59, List.forall_mem_cons.mpr ⟨lw_p60, List.forall_mem_cons.mpr ⟨lw_p61, List.forall_mem_cons.mpr ⟨lw_p62, List.forall_mem_cons.mpr ⟨lw_p63, fun _ h => absurd h List.not_mem_nil⟩⟩⟩⟩⟩⟩⟩⟩⟩⟩⟩⟩⟩⟩⟩⟩
theorem lw_p64 : lw_okq (⟨"InodeVolumesModel", "fails", "(ZI)Z"⟩, 19) := ⟨⟨by decide +kernel, by decide +kernel⟩, List.mem_of_getElem? (i := 693) (by decide +kernel), List.mem_of_getElem? (i := 938) (by decide +kernel), List.mem_of_getElem? (i := 939) (by decide +kernel)⟩
theorem lw_p65 : lw_okq (⟨"InodeVolumesModel", "count", "()I"⟩, 19) := ⟨⟨by decide +kernel, by decide +kernel⟩, List.mem_of_getElem? (i := 693) (by decide +kernel), List.mem_of_getElem? (i := 942) (by decide +kernel), List.mem_of_getElem? (i := 943) (by decide +kernel)⟩
theorem lw_p66 : lw_okq (⟨"InodeVolumesModel", "no", "(I)Z"⟩, 19) := ⟨⟨by decide +kernel, by decide +kernel⟩, List.mem_of_getElem? (i := 693) (by decide +kernel), List.mem_of_getElem? (i := 950) (by decide +kernel), List.mem_of_getElem? (i := 951) (by decide +kernel)⟩
def lw_privs_5 : List (MethodName × Nat) := [(⟨"InodeVolumesModel", "fails", "(ZI)Z"⟩, 19), (⟨"InodeVolumesModel", "count", "()I"⟩, 19), (⟨"InodeVolumesModel", "no", "(I)Z"⟩, 19)]
theorem lw_r5 : ∀ q ∈ lw_privs_5, lw_okq q := List.forall_mem_cons.mpr ⟨lw_p64, List.forall_mem_cons.mpr ⟨lw_p65, List.forall_mem_cons.mpr ⟨lw_p66, fun _ h => absurd h List.not_mem_nil⟩⟩⟩
def lw_privs : List (MethodName × Nat) := lw_privs_1 ++ (lw_privs_2 ++ (lw_privs_3 ++ (lw_privs_4 ++ (lw_privs_5))))
def lw_tbl : List Cond := k2_sels lw_privs ++ tables_1
theorem lw_privs_ok : ∀ q ∈ lw_privs, lw_okq q := by
  show ∀ q ∈ lw_privs_1 ++ (lw_privs_2 ++ (lw_privs_3 ++ (lw_privs_4 ++ (lw_privs_5)))), lw_okq q
  exact List.forall_mem_append.mpr ⟨lw_r1, List.forall_mem_append.mpr ⟨lw_r2, List.forall_mem_append.mpr ⟨lw_r3, List.forall_mem_append.mpr ⟨lw_r4, lw_r5⟩⟩⟩⟩
end
section
abbrev R_V : String := "InodeVolumes"
abbrev R_D : String := "InodeVolumes$Disk"
abbrev R_E : String := "InodeVolumes$Entries"
abbrev R_L : String := "InodeVolumes$Layout"
abbrev R_S : String := "InodeVolumes$Survey"
abbrev R_M : String := "InodeVolumesModel"
abbrev R_A : String := "InodeVolumesLaw"
abbrev R_J : String := "java/util/Arrays"
def T_D : u_T := fun k => match k with
  | 0 => (R_D, "blocks", "I", true)
  | 1 => (R_D, "size", "I", true)
  | _ => (R_D, "words", "[J", true)
def ty_D : Nat → FieldType := fun k => match k with
  | 0 => .int
  | 1 => .int
  | _ => .array .long
theorem nm_D : ∀ a, a < 3 → ∀ b, b < 3 → a ≠ b → (T_D a).2.1 ≠ (T_D b).2.1 := by decide +kernel
theorem tyok_D : ∀ k, k < 3 → parseFieldDescriptor (T_D k).2.2.1 = some (ty_D k) := by decide +kernel
def T_E : u_T := fun k => match k with
  | 0 => (R_E, "disk", "LInodeVolumes$Disk;", true)
  | 1 => (R_E, "layout", "LInodeVolumes$Layout;", true)
  | 2 => (R_E, "directory", "I", false)
  | 3 => (R_E, "size", "J", false)
  | 4 => (R_E, "offset", "J", false)
  | 5 => (R_E, "order", "I", false)
  | 6 => (R_E, "place", "J", false)
  | _ => (R_E, "head", "J", false)
def ty_E : Nat → FieldType := fun k => match k with
  | 0 => .object "InodeVolumes$Disk"
  | 1 => .object "InodeVolumes$Layout"
  | 2 => .int
  | 3 => .long
  | 4 => .long
  | 5 => .int
  | 6 => .long
  | _ => .long
theorem nm_E : ∀ a, a < 8 → ∀ b, b < 8 → a ≠ b → (T_E a).2.1 ≠ (T_E b).2.1 := by decide +kernel
theorem tyok_E : ∀ k, k < 8 → parseFieldDescriptor (T_E k).2.2.1 = some (ty_E k) := by decide +kernel
def T_L : u_T := fun k => match k with
  | 0 => (R_L, "disk", "LInodeVolumes$Disk;", true)
  | 1 => (R_L, "mapBlock", "[I", true)
  | 2 => (R_L, "groupBlocks", "I", false)
  | 3 => (R_L, "groupInodes", "I", false)
  | 4 => (R_L, "groups", "I", false)
  | _ => (R_L, "inodes", "I", false)
def ty_L : Nat → FieldType := fun k => match k with
  | 0 => .object "InodeVolumes$Disk"
  | 1 => .array .int
  | 2 => .int
  | 3 => .int
  | 4 => .int
  | _ => .int
theorem nm_L : ∀ a, a < 6 → ∀ b, b < 6 → a ≠ b → (T_L a).2.1 ≠ (T_L b).2.1 := by decide +kernel
theorem tyok_L : ∀ k, k < 6 → parseFieldDescriptor (T_L k).2.2.1 = some (ty_L k) := by decide +kernel
def T_S : u_T := fun k => match k with
  | 0 => (R_S, "disk", "LInodeVolumes$Disk;", true)
  | 1 => (R_S, "layout", "LInodeVolumes$Layout;", true)
  | 2 => (R_S, "entries", "LInodeVolumes$Entries;", true)
  | 3 => (R_S, "taken", "[I", true)
  | 4 => (R_S, "known", "[I", true)
  | 5 => (R_S, "line", "[I", true)
  | 6 => (R_S, "parents", "[I", true)
  | 7 => (R_S, "inside", "[I", true)
  | 8 => (R_S, "came", "I", false)
  | _ => (R_S, "found", "I", false)
def ty_S : Nat → FieldType := fun k => match k with
  | 0 => .object "InodeVolumes$Disk"
  | 1 => .object "InodeVolumes$Layout"
  | 2 => .object "InodeVolumes$Entries"
  | 3 => .array .int
  | 4 => .array .int
  | 5 => .array .int
  | 6 => .array .int
  | 7 => .array .int
  | 8 => .int
  | _ => .int
theorem nm_S : ∀ a, a < 10 → ∀ b, b < 10 → a ≠ b → (T_S a).2.1 ≠ (T_S b).2.1 := by decide +kernel
theorem tyok_S : ∀ k, k < 10 → parseFieldDescriptor (T_S k).2.2.1 = some (ty_S k) := by decide +kernel
def T_V : u_T := fun k => match k with
  | 0 => (R_V, "disk", "LInodeVolumes$Disk;", true)
  | 1 => (R_V, "layout", "LInodeVolumes$Layout;", true)
  | 2 => (R_V, "entries", "LInodeVolumes$Entries;", true)
  | 3 => (R_V, "survey", "LInodeVolumes$Survey;", true)
  | _ => (R_V, "here", "I", false)
def ty_V : Nat → FieldType := fun k => match k with
  | 0 => .object "InodeVolumes$Disk"
  | 1 => .object "InodeVolumes$Layout"
  | 2 => .object "InodeVolumes$Entries"
  | 3 => .object "InodeVolumes$Survey"
  | _ => .int
theorem nm_V : ∀ a, a < 5 → ∀ b, b < 5 → a ≠ b → (T_V a).2.1 ≠ (T_V b).2.1 := by decide +kernel
theorem tyok_V : ∀ k, k < 5 → parseFieldDescriptor (T_V k).2.2.1 = some (ty_V k) := by decide +kernel
def T_M : u_T := fun k => match k with
  | 0 => (R_M, "thrown", "I", false)
  | 1 => (R_M, "blocks", "I", true)
  | 2 => (R_M, "disk", "[B", true)
  | 3 => (R_M, "looked", "Z", false)
  | 4 => (R_M, "fault", "I", false)
  | 5 => (R_M, "p", "I", false)
  | 6 => (R_M, "g", "I", false)
  | 7 => (R_M, "j", "I", false)
  | 8 => (R_M, "q", "I", false)
  | 9 => (R_M, "map", "[I", true)
  | 10 => (R_M, "fixed", "[Z", true)
  | 11 => (R_M, "taken", "[Z", true)
  | 12 => (R_M, "many", "I", false)
  | 13 => (R_M, "order", "[I", true)
  | 14 => (R_M, "parent", "[I", true)
  | 15 => (R_M, "folders", "[I", true)
  | 16 => (R_M, "came", "[Z", true)
  | 17 => (R_M, "here", "I", false)
  | _ => (R_M, "found", "I", false)
def ty_M : Nat → FieldType := fun k => match k with
  | 0 => .int
  | 1 => .int
  | 2 => .array .byte
  | 3 => .boolean
  | 4 => .int
  | 5 => .int
  | 6 => .int
  | 7 => .int
  | 8 => .int
  | 9 => .array .int
  | 10 => .array .boolean
  | 11 => .array .boolean
  | 12 => .int
  | 13 => .array .int
  | 14 => .array .int
  | 15 => .array .int
  | 16 => .array .boolean
  | 17 => .int
  | _ => .int
theorem nm_M : ∀ a, a < 19 → ∀ b, b < 19 → a ≠ b → (T_M a).2.1 ≠ (T_M b).2.1 := by decide +kernel
theorem tyok_M : ∀ k, k < 19 → parseFieldDescriptor (T_M k).2.2.1 = some (ty_M k) := by decide +kernel
abbrev clAll : List vw_C := [(R_D, T_D, 3), (R_E, T_E, 8), (R_L, T_L, 6), (R_S, T_S, 10), (R_V, T_V, 5), (R_M, T_M, 19)]
/-- the tables' words that stay: every method's list of words is its own code and these -/
def TB : List Cond := lw_tbl.filter goodWord
theorem inTB {w : Cond} (i : Nat) (h : lw_tbl[i]? = some w) (g : goodWord w = true) : w ∈ TB := List.mem_filter.mpr ⟨List.mem_of_getElem? h, g⟩
theorem goodTB {w : Cond} (h : w ∈ TB) : (w.onTables && w.keeps) = true ∨ ∃ ty, w = .arrayClass ty := good_of_word (List.mem_filter.mp h).2
theorem gV {own C : String} {idx : Nat} {y : MethodName} {b : ByteArray} {n : Nat} {r : Option FieldType} (h1 : Cond.methodLink own idx y ∈ TB) (h2 : Cond.instanceMethod y ∈ TB) (h3 : Cond.selects C y y ∈ TB) (h4 : Cond.initialized C ∈ TB) (h5 : Cond.code y b n r ∈ TB) : GoodIn TB (wsV own idx C y (Cond.code y b n r :: TB)) := by
  have key : ∀ w ∈ wsV own idx C y (Cond.code y b n r :: TB), w ∈ TB := by
    intro w hw
    unfold wsV at hw
    rcases List.mem_append.mp hw with h | h
    · simp only [List.mem_cons, List.not_mem_nil, or_false] at h
      rcases h with h | h | h | h <;> subst h <;> assumption
    · rcases List.mem_cons.mp h with h | h
      · subst h; exact h5
      · exact h
  exact fun w hw => ⟨key w hw, goodTB (key w hw)⟩
theorem in_D : ∀ w ∈ u_ws R_D T_D 3, w ∈ TB := by
  have h : (u_ws R_D T_D 3).all (fun w => decide (w ∈ lw_tbl) && goodWord w) = true := by decide +kernel
  intro w hw
  have h1 := List.all_eq_true.mp h w hw
  rw [Bool.and_eq_true, decide_eq_true_eq] at h1
  exact List.mem_filter.mpr h1
theorem in_E : ∀ w ∈ u_ws R_E T_E 8, w ∈ TB := by
  have h : (u_ws R_E T_E 8).all (fun w => decide (w ∈ lw_tbl) && goodWord w) = true := by decide +kernel
  intro w hw
  have h1 := List.all_eq_true.mp h w hw
  rw [Bool.and_eq_true, decide_eq_true_eq] at h1
  exact List.mem_filter.mpr h1
theorem in_L : ∀ w ∈ u_ws R_L T_L 6, w ∈ TB := by
  have h : (u_ws R_L T_L 6).all (fun w => decide (w ∈ lw_tbl) && goodWord w) = true := by decide +kernel
  intro w hw
  have h1 := List.all_eq_true.mp h w hw
  rw [Bool.and_eq_true, decide_eq_true_eq] at h1
  exact List.mem_filter.mpr h1
theorem in_S : ∀ w ∈ u_ws R_S T_S 10, w ∈ TB := by
  have h : (u_ws R_S T_S 10).all (fun w => decide (w ∈ lw_tbl) && goodWord w) = true := by decide +kernel
  intro w hw
  have h1 := List.all_eq_true.mp h w hw
  rw [Bool.and_eq_true, decide_eq_true_eq] at h1
  exact List.mem_filter.mpr h1
theorem in_V : ∀ w ∈ u_ws R_V T_V 5, w ∈ TB := by
  have h : (u_ws R_V T_V 5).all (fun w => decide (w ∈ lw_tbl) && goodWord w) = true := by decide +kernel
  intro w hw
  have h1 := List.all_eq_true.mp h w hw
  rw [Bool.and_eq_true, decide_eq_true_eq] at h1
  exact List.mem_filter.mpr h1
theorem in_M : ∀ w ∈ u_ws R_M T_M 19, w ∈ TB := by
  have h : (u_ws R_M T_M 19).all (fun w => decide (w ∈ lw_tbl) && goodWord w) = true := by decide +kernel
  intro w hw
  have h1 := List.all_eq_true.mp h w hw
  rw [Bool.and_eq_true, decide_eq_true_eq] at h1
  exact List.mem_filter.mpr h1
abbrev y_A_about : MethodName := ⟨R_A, "about", "(LInodeVolumes;II[J)I"⟩
abbrev b_A_about : ByteArray := method_5_code
abbrev y_A_cell : MethodName := ⟨R_A, "cell", "([II)I"⟩
abbrev b_A_cell : ByteArray := method_2_code
abbrev ws_A_cell : List Cond := Cond.code y_A_cell b_A_cell 2 (some .int) :: TB
abbrev y_A_content : MethodName := ⟨R_A, "content", "(LInodeVolumes;II[J)I"⟩
abbrev b_A_content : ByteArray := method_6_code
abbrev y_A_enter : MethodName := ⟨R_A, "enter", "(LInodeVolumes;I[J)I"⟩
abbrev b_A_enter : ByteArray := method_7_code
abbrev y_A_items : MethodName := ⟨R_A, "items", "(LInodeVolumes;[J)I"⟩
abbrev b_A_items : ByteArray := method_3_code
abbrev y_A_letter : MethodName := ⟨R_A, "letter", "(LInodeVolumes;II[J)I"⟩
abbrev b_A_letter : ByteArray := method_4_code
abbrev y_A_up : MethodName := ⟨R_A, "up", "(LInodeVolumes;[J)I"⟩
abbrev b_A_up : ByteArray := method_8_code
abbrev y_D_init : MethodName := ⟨R_D, "<init>", "(I)V"⟩
abbrev b_D_init : ByteArray := prog_2_method_1_code
abbrev ws_D_init : List Cond := Cond.code y_D_init b_D_init 2 none :: TB
abbrev y_D_bit : MethodName := ⟨R_D, "bit", "(JI)Z"⟩
abbrev b_D_bit : ByteArray := prog_2_method_8_code
abbrev ws_D_bit : List Cond := Cond.code y_D_bit b_D_bit 4 (some .boolean) :: TB
abbrev y_D_blocks : MethodName := ⟨R_D, "blocks", "()I"⟩
abbrev b_D_blocks : ByteArray := prog_2_method_2_code
abbrev ws_D_blocks : List Cond := Cond.code y_D_blocks b_D_blocks 1 (some .int) :: TB
abbrev y_D_holds : MethodName := ⟨R_D, "holds", "(JI)Z"⟩
abbrev b_D_holds : ByteArray := prog_2_method_3_code
abbrev ws_D_holds : List Cond := Cond.code y_D_holds b_D_holds 4 (some .boolean) :: TB
abbrev y_D_move : MethodName := ⟨R_D, "move", "(III)V"⟩
abbrev b_D_move : ByteArray := prog_2_method_7_code
abbrev ws_D_move : List Cond := Cond.code y_D_move b_D_move 5 none :: TB
abbrev y_D_number : MethodName := ⟨R_D, "number", "(JI)J"⟩
abbrev b_D_number : ByteArray := prog_2_method_4_code
abbrev ws_D_number : List Cond := Cond.code y_D_number b_D_number 8 (some .long) :: TB
abbrev y_D_onesFrom : MethodName := ⟨R_D, "onesFrom", "(JI)Z"⟩
abbrev b_D_onesFrom : ByteArray := prog_2_method_9_code
abbrev ws_D_onesFrom : List Cond := Cond.code y_D_onesFrom b_D_onesFrom 5 (some .boolean) :: TB
abbrev y_D_set : MethodName := ⟨R_D, "set", "(JIJ)V"⟩
abbrev b_D_set : ByteArray := prog_2_method_5_code
abbrev ws_D_set : List Cond := Cond.code y_D_set b_D_set 12 none :: TB
abbrev y_D_spread : MethodName := ⟨R_D, "spread", "(III)V"⟩
abbrev b_D_spread : ByteArray := prog_2_method_6_code
abbrev ws_D_spread : List Cond := Cond.code y_D_spread b_D_spread 7 none :: TB
abbrev y_E_init : MethodName := ⟨R_E, "<init>", "(LInodeVolumes$Disk;LInodeVolumes$Layout;)V"⟩
abbrev b_E_init : ByteArray := prog_3_method_1_code
abbrev ws_E_init : List Cond := Cond.code y_E_init b_E_init 3 none :: TB
abbrev y_E_advance : MethodName := ⟨R_E, "advance", "()V"⟩
abbrev b_E_advance : ByteArray := prog_3_method_4_code
abbrev ws_E_advance : List Cond := Cond.code y_E_advance b_E_advance 1 none :: TB
abbrev y_E_fits : MethodName := ⟨R_E, "fits", "()Z"⟩
abbrev b_E_fits : ByteArray := prog_3_method_14_code
abbrev ws_E_fits : List Cond := Cond.code y_E_fits b_E_fits 2 (some .boolean) :: TB
abbrev y_E_hasInode : MethodName := ⟨R_E, "hasInode", "()Z"⟩
abbrev b_E_hasInode : ByteArray := prog_3_method_7_code
abbrev ws_E_hasInode : List Cond := Cond.code y_E_hasInode b_E_hasInode 1 (some .boolean) :: TB
abbrev y_E_hasName : MethodName := ⟨R_E, "hasName", "()Z"⟩
abbrev b_E_hasName : ByteArray := prog_3_method_15_code
abbrev ws_E_hasName : List Cond := Cond.code y_E_hasName b_E_hasName 5 (some .boolean) :: TB
abbrev y_E_inode : MethodName := ⟨R_E, "inode", "()I"⟩
abbrev b_E_inode : ByteArray := prog_3_method_6_code
abbrev ws_E_inode : List Cond := Cond.code y_E_inode b_E_inode 1 (some .int) :: TB
abbrev y_E_isEmpty : MethodName := ⟨R_E, "isEmpty", "()Z"⟩
abbrev b_E_isEmpty : ByteArray := prog_3_method_12_code
abbrev ws_E_isEmpty : List Cond := Cond.code y_E_isEmpty b_E_isEmpty 1 (some .boolean) :: TB
abbrev y_E_isItem : MethodName := ⟨R_E, "isItem", "()Z"⟩
abbrev b_E_isItem : ByteArray := prog_3_method_13_code
abbrev ws_E_isItem : List Cond := Cond.code y_E_isItem b_E_isItem 1 (some .boolean) :: TB
abbrev y_E_isOn : MethodName := ⟨R_E, "isOn", "()Z"⟩
abbrev b_E_isOn : ByteArray := prog_3_method_3_code
abbrev ws_E_isOn : List Cond := Cond.code y_E_isOn b_E_isOn 1 (some .boolean) :: TB
abbrev y_E_isOneDot : MethodName := ⟨R_E, "isOneDot", "()Z"⟩
abbrev b_E_isOneDot : ByteArray := prog_3_method_16_code
abbrev ws_E_isOneDot : List Cond := Cond.code y_E_isOneDot b_E_isOneDot 1 (some .boolean) :: TB
abbrev y_E_isTwoDots : MethodName := ⟨R_E, "isTwoDots", "()Z"⟩
abbrev b_E_isTwoDots : ByteArray := prog_3_method_17_code
abbrev ws_E_isTwoDots : List Cond := Cond.code y_E_isTwoDots b_E_isTwoDots 1 (some .boolean) :: TB
abbrev y_E_length : MethodName := ⟨R_E, "length", "()I"⟩
abbrev b_E_length : ByteArray := prog_3_method_8_code
abbrev ws_E_length : List Cond := Cond.code y_E_length b_E_length 1 (some .int) :: TB
abbrev y_E_mark : MethodName := ⟨R_E, "mark", "()I"⟩
abbrev b_E_mark : ByteArray := prog_3_method_10_code
abbrev ws_E_mark : List Cond := Cond.code y_E_mark b_E_mark 1 (some .int) :: TB
abbrev y_E_nameByte : MethodName := ⟨R_E, "nameByte", "(I)I"⟩
abbrev b_E_nameByte : ByteArray := prog_3_method_11_code
abbrev ws_E_nameByte : List Cond := Cond.code y_E_nameByte b_E_nameByte 2 (some .int) :: TB
abbrev y_E_nameLength : MethodName := ⟨R_E, "nameLength", "()I"⟩
abbrev b_E_nameLength : ByteArray := prog_3_method_9_code
abbrev ws_E_nameLength : List Cond := Cond.code y_E_nameLength b_E_nameLength 1 (some .int) :: TB
abbrev y_E_order : MethodName := ⟨R_E, "order", "()I"⟩
abbrev b_E_order : ByteArray := prog_3_method_5_code
abbrev ws_E_order : List Cond := Cond.code y_E_order b_E_order 1 (some .int) :: TB
abbrev y_E_start : MethodName := ⟨R_E, "start", "(I)V"⟩
abbrev b_E_start : ByteArray := prog_3_method_2_code
abbrev ws_E_start : List Cond := Cond.code y_E_start b_E_start 2 none :: TB
abbrev y_J_fill : MethodName := ⟨R_J, "fill", "([II)V"⟩
abbrev b_J_fill : ByteArray := prog_16_method_103_code
abbrev ws_J_fill : List Cond := Cond.code y_J_fill b_J_fill 4 none :: TB
abbrev y_L_init : MethodName := ⟨R_L, "<init>", "(LInodeVolumes$Disk;)V"⟩
abbrev b_L_init : ByteArray := prog_4_method_1_code
abbrev ws_L_init : List Cond := Cond.code y_L_init b_L_init 2 none :: TB
abbrev y_L_blockMap : MethodName := ⟨R_L, "blockMap", "(I)J"⟩
abbrev b_L_blockMap : ByteArray := prog_4_method_11_code
abbrev ws_L_blockMap : List Cond := Cond.code y_L_blockMap b_L_blockMap 2 (some .long) :: TB
abbrev y_L_blockOf : MethodName := ⟨R_L, "blockOf", "(II)J"⟩
abbrev b_L_blockOf : ByteArray := prog_4_method_21_code
abbrev ws_L_blockOf : List Cond := Cond.code y_L_blockOf b_L_blockOf 10 (some .long) :: TB
abbrev y_L_blocksFor : MethodName := ⟨R_L, "blocksFor", "(J)I"⟩
abbrev b_L_blocksFor : ByteArray := prog_4_method_20_code
abbrev ws_L_blocksFor : List Cond := Cond.code y_L_blocksFor b_L_blocksFor 3 (some .int) :: TB
abbrev y_L_blocksOf : MethodName := ⟨R_L, "blocksOf", "(I)I"⟩
abbrev b_L_blocksOf : ByteArray := prog_4_method_9_code
abbrev ws_L_blocksOf : List Cond := Cond.code y_L_blocksOf b_L_blocksOf 2 (some .int) :: TB
abbrev y_L_described : MethodName := ⟨R_L, "described", "(III)J"⟩
abbrev b_L_described : ByteArray := prog_4_method_10_code
abbrev ws_L_described : List Cond := Cond.code y_L_described b_L_described 4 (some .long) :: TB
abbrev y_L_field : MethodName := ⟨R_L, "field", "(III)J"⟩
abbrev b_L_field : ByteArray := prog_4_method_17_code
abbrev ws_L_field : List Cond := Cond.code y_L_field b_L_field 4 (some .long) :: TB
abbrev y_L_firstBlock : MethodName := ⟨R_L, "firstBlock", "(I)I"⟩
abbrev b_L_firstBlock : ByteArray := prog_4_method_8_code
abbrev ws_L_firstBlock : List Cond := Cond.code y_L_firstBlock b_L_firstBlock 2 (some .int) :: TB
abbrev y_L_groupBlocks : MethodName := ⟨R_L, "groupBlocks", "()I"⟩
abbrev b_L_groupBlocks : ByteArray := prog_4_method_5_code
abbrev ws_L_groupBlocks : List Cond := Cond.code y_L_groupBlocks b_L_groupBlocks 1 (some .int) :: TB
abbrev y_L_groupInodes : MethodName := ⟨R_L, "groupInodes", "()I"⟩
abbrev b_L_groupInodes : ByteArray := prog_4_method_6_code
abbrev ws_L_groupInodes : List Cond := Cond.code y_L_groupInodes b_L_groupInodes 1 (some .int) :: TB
abbrev y_L_groupOf : MethodName := ⟨R_L, "groupOf", "(I)I"⟩
abbrev b_L_groupOf : ByteArray := prog_4_method_13_code
abbrev ws_L_groupOf : List Cond := Cond.code y_L_groupOf b_L_groupOf 2 (some .int) :: TB
abbrev y_L_groups : MethodName := ⟨R_L, "groups", "()I"⟩
abbrev b_L_groups : ByteArray := prog_4_method_4_code
abbrev ws_L_groups : List Cond := Cond.code y_L_groups b_L_groups 1 (some .int) :: TB
abbrev y_L_inodeMap : MethodName := ⟨R_L, "inodeMap", "(I)J"⟩
abbrev b_L_inodeMap : ByteArray := prog_4_method_12_code
abbrev ws_L_inodeMap : List Cond := Cond.code y_L_inodeMap b_L_inodeMap 2 (some .long) :: TB
abbrev y_L_inodePlace : MethodName := ⟨R_L, "inodePlace", "(I)J"⟩
abbrev b_L_inodePlace : ByteArray := prog_4_method_16_code
abbrev ws_L_inodePlace : List Cond := Cond.code y_L_inodePlace b_L_inodePlace 3 (some .long) :: TB
abbrev y_L_inodes : MethodName := ⟨R_L, "inodes", "()I"⟩
abbrev b_L_inodes : ByteArray := prog_4_method_7_code
abbrev ws_L_inodes : List Cond := Cond.code y_L_inodes b_L_inodes 1 (some .int) :: TB
abbrev y_L_isInode : MethodName := ⟨R_L, "isInode", "(J)Z"⟩
abbrev b_L_isInode : ByteArray := prog_4_method_14_code
abbrev ws_L_isInode : List Cond := Cond.code y_L_isInode b_L_isInode 3 (some .boolean) :: TB
abbrev y_L_isUsed : MethodName := ⟨R_L, "isUsed", "(I)Z"⟩
abbrev b_L_isUsed : ByteArray := prog_4_method_15_code
abbrev ws_L_isUsed : List Cond := Cond.code y_L_isUsed b_L_isUsed 4 (some .boolean) :: TB
abbrev y_L_readGroups : MethodName := ⟨R_L, "readGroups", "()Z"⟩
abbrev b_L_readGroups : ByteArray := prog_4_method_2_code
abbrev ws_L_readGroups : List Cond := Cond.code y_L_readGroups b_L_readGroups 5 (some .boolean) :: TB
abbrev y_L_setMap : MethodName := ⟨R_L, "setMap", "(II)V"⟩
abbrev b_L_setMap : ByteArray := prog_4_method_3_code
abbrev ws_L_setMap : List Cond := Cond.code y_L_setMap b_L_setMap 3 none :: TB
abbrev y_L_sizeOf : MethodName := ⟨R_L, "sizeOf", "(I)J"⟩
abbrev b_L_sizeOf : ByteArray := prog_4_method_19_code
abbrev ws_L_sizeOf : List Cond := Cond.code y_L_sizeOf b_L_sizeOf 2 (some .long) :: TB
abbrev y_L_typeOf : MethodName := ⟨R_L, "typeOf", "(I)I"⟩
abbrev b_L_typeOf : ByteArray := prog_4_method_18_code
abbrev ws_L_typeOf : List Cond := Cond.code y_L_typeOf b_L_typeOf 2 (some .int) :: TB
abbrev y_M_init : MethodName := ⟨R_M, "<init>", "(I)V"⟩
abbrev b_M_init : ByteArray := prog_7_method_1_code
abbrev ws_M_init : List Cond := Cond.code y_M_init b_M_init 2 none :: TB
abbrev y_M_about : MethodName := ⟨R_M, "about", "(II)J"⟩
abbrev b_M_about : ByteArray := prog_7_method_48_code
abbrev ws_M_about : List Cond := Cond.code y_M_about b_M_about 4 (some .long) :: TB
abbrev y_M_badCopies : MethodName := ⟨R_M, "badCopies", "()Z"⟩
abbrev b_M_badCopies : ByteArray := prog_7_method_16_code
abbrev ws_M_badCopies : List Cond := Cond.code y_M_badCopies b_M_badCopies 4 (some .boolean) :: TB
abbrev y_M_badCounts : MethodName := ⟨R_M, "badCounts", "()Z"⟩
abbrev b_M_badCounts : ByteArray := prog_7_method_39_code
abbrev ws_M_badCounts : List Cond := Cond.code y_M_badCounts b_M_badCounts 12 (some .boolean) :: TB
abbrev y_M_badEntries : MethodName := ⟨R_M, "badEntries", "(I)Z"⟩
abbrev b_M_badEntries : ByteArray := prog_7_method_33_code
abbrev ws_M_badEntries : List Cond := Cond.code y_M_badEntries b_M_badEntries 7 (some .boolean) :: TB
abbrev y_M_badHead : MethodName := ⟨R_M, "badHead", "()Z"⟩
abbrev b_M_badHead : ByteArray := prog_7_method_15_code
abbrev ws_M_badHead : List Cond := Cond.code y_M_badHead b_M_badHead 7 (some .boolean) :: TB
abbrev y_M_badInodes : MethodName := ⟨R_M, "badInodes", "()Z"⟩
abbrev b_M_badInodes : ByteArray := prog_7_method_38_code
abbrev ws_M_badInodes : List Cond := Cond.code y_M_badInodes b_M_badInodes 3 (some .boolean) :: TB
abbrev y_M_badLinks : MethodName := ⟨R_M, "badLinks", "()Z"⟩
abbrev b_M_badLinks : ByteArray := prog_7_method_37_code
abbrev ws_M_badLinks : List Cond := Cond.code y_M_badLinks b_M_badLinks 3 (some .boolean) :: TB
abbrev y_M_badMaps : MethodName := ⟨R_M, "badMaps", "()Z"⟩
abbrev b_M_badMaps : ByteArray := prog_7_method_18_code
abbrev ws_M_badMaps : List Cond := Cond.code y_M_badMaps b_M_badMaps 7 (some .boolean) :: TB
abbrev y_M_begin : MethodName := ⟨R_M, "begin", "(I)I"⟩
abbrev b_M_begin : ByteArray := prog_7_method_13_code
abbrev ws_M_begin : List Cond := Cond.code y_M_begin b_M_begin 2 (some .int) :: TB
abbrev y_M_bit : MethodName := ⟨R_M, "bit", "(II)Z"⟩
abbrev b_M_bit : ByteArray := prog_7_method_20_code
abbrev ws_M_bit : List Cond := Cond.code y_M_bit b_M_bit 3 (some .boolean) :: TB
abbrev y_M_blockOf : MethodName := ⟨R_M, "blockOf", "(II)J"⟩
abbrev b_M_blockOf : ByteArray := prog_7_method_27_code
abbrev ws_M_blockOf : List Cond := Cond.code y_M_blockOf b_M_blockOf 4 (some .long) :: TB
abbrev y_M_byteAt : MethodName := ⟨R_M, "byteAt", "(I)I"⟩
abbrev b_M_byteAt : ByteArray := prog_7_method_12_code
abbrev ws_M_byteAt : List Cond := Cond.code y_M_byteAt b_M_byteAt 2 (some .int) :: TB
abbrev y_M_changed : MethodName := ⟨R_M, "changed", "()Z"⟩
abbrev b_M_changed : ByteArray := prog_7_method_8_code
abbrev ws_M_changed : List Cond := Cond.code y_M_changed b_M_changed 1 (some .boolean) :: TB
abbrev y_M_comes : MethodName := ⟨R_M, "comes", "(II)V"⟩
abbrev b_M_comes : ByteArray := prog_7_method_35_code
abbrev ws_M_comes : List Cond := Cond.code y_M_comes b_M_comes 3 none :: TB
abbrev y_M_content : MethodName := ⟨R_M, "content", "(II)I"⟩
abbrev b_M_content : ByteArray := prog_7_method_49_code
abbrev ws_M_content : List Cond := Cond.code y_M_content b_M_content 4 (some .int) :: TB
abbrev y_M_copy : MethodName := ⟨R_M, "copy", "(III)Z"⟩
abbrev b_M_copy : ByteArray := prog_7_method_11_code
abbrev ws_M_copy : List Cond := Cond.code y_M_copy b_M_copy 6 (some .boolean) :: TB
abbrev y_M_count : MethodName := ⟨R_M, "count", "()I"⟩
abbrev b_M_count : ByteArray := prog_7_method_44_code
abbrev ws_M_count : List Cond := Cond.code y_M_count b_M_count 2 (some .int) :: TB
abbrev y_M_enter : MethodName := ⟨R_M, "enter", "(I)I"⟩
abbrev b_M_enter : ByteArray := prog_7_method_50_code
abbrev ws_M_enter : List Cond := Cond.code y_M_enter b_M_enter 2 (some .int) :: TB
abbrev y_M_fails : MethodName := ⟨R_M, "fails", "(ZI)Z"⟩
abbrev b_M_fails : ByteArray := prog_7_method_3_code
abbrev ws_M_fails : List Cond := Cond.code y_M_fails b_M_fails 3 (some .boolean) :: TB
abbrev y_M_fault : MethodName := ⟨R_M, "fault", "()I"⟩
abbrev b_M_fault : ByteArray := prog_7_method_42_code
abbrev ws_M_fault : List Cond := Cond.code y_M_fault b_M_fault 1 (some .int) :: TB
abbrev y_M_fill : MethodName := ⟨R_M, "fill", "(III)Z"⟩
abbrev b_M_fill : ByteArray := prog_7_method_10_code
abbrev ws_M_fill : List Cond := Cond.code y_M_fill b_M_fill 5 (some .boolean) :: TB
abbrev y_M_finds : MethodName := ⟨R_M, "finds", "(II)Z"⟩
abbrev b_M_finds : ByteArray := prog_7_method_34_code
abbrev ws_M_finds : List Cond := Cond.code y_M_finds b_M_finds 8 (some .boolean) :: TB
abbrev y_M_firstFault : MethodName := ⟨R_M, "firstFault", "()I"⟩
abbrev b_M_firstFault : ByteArray := prog_7_method_40_code
abbrev ws_M_firstFault : List Cond := Cond.code y_M_firstFault b_M_firstFault 2 (some .int) :: TB
abbrev y_M_fixes : MethodName := ⟨R_M, "fixes", "(I)Z"⟩
abbrev b_M_fixes : ByteArray := prog_7_method_17_code
abbrev ws_M_fixes : List Cond := Cond.code y_M_fixes b_M_fixes 3 (some .boolean) :: TB
abbrev y_M_four : MethodName := ⟨R_M, "four", "(I)J"⟩
abbrev b_M_four : ByteArray := prog_7_method_6_code
abbrev ws_M_four : List Cond := Cond.code y_M_four b_M_four 2 (some .long) :: TB
abbrev y_M_inodeAt : MethodName := ⟨R_M, "inodeAt", "(I)I"⟩
abbrev b_M_inodeAt : ByteArray := prog_7_method_19_code
abbrev ws_M_inodeAt : List Cond := Cond.code y_M_inodeAt b_M_inodeAt 2 (some .int) :: TB
abbrev y_M_isDots : MethodName := ⟨R_M, "isDots", "(II)Z"⟩
abbrev b_M_isDots : ByteArray := prog_7_method_31_code
abbrev ws_M_isDots : List Cond := Cond.code y_M_isDots b_M_isDots 5 (some .boolean) :: TB
abbrev y_M_isEntry : MethodName := ⟨R_M, "isEntry", "(IIII)Z"⟩
abbrev b_M_isEntry : ByteArray := prog_7_method_32_code
abbrev ws_M_isEntry : List Cond := Cond.code y_M_isEntry b_M_isEntry 11 (some .boolean) :: TB
abbrev y_M_isThere : MethodName := ⟨R_M, "isThere", "(JJ)Z"⟩
abbrev b_M_isThere : ByteArray := prog_7_method_7_code
abbrev ws_M_isThere : List Cond := Cond.code y_M_isThere b_M_isThere 5 (some .boolean) :: TB
abbrev y_M_isUsed : MethodName := ⟨R_M, "isUsed", "(I)Z"⟩
abbrev b_M_isUsed : ByteArray := prog_7_method_21_code
abbrev ws_M_isUsed : List Cond := Cond.code y_M_isUsed b_M_isUsed 2 (some .boolean) :: TB
abbrev y_M_isWhole : MethodName := ⟨R_M, "isWhole", "(I)Z"⟩
abbrev b_M_isWhole : ByteArray := prog_7_method_28_code
abbrev ws_M_isWhole : List Cond := Cond.code y_M_isWhole b_M_isWhole 7 (some .boolean) :: TB
abbrev y_M_items : MethodName := ⟨R_M, "items", "()I"⟩
abbrev b_M_items : ByteArray := prog_7_method_45_code
abbrev ws_M_items : List Cond := Cond.code y_M_items b_M_items 1 (some .int) :: TB
abbrev y_M_lengthAt : MethodName := ⟨R_M, "lengthAt", "(I)I"⟩
abbrev b_M_lengthAt : ByteArray := prog_7_method_29_code
abbrev ws_M_lengthAt : List Cond := Cond.code y_M_lengthAt b_M_lengthAt 2 (some .int) :: TB
abbrev y_M_letter : MethodName := ⟨R_M, "letter", "(II)I"⟩
abbrev b_M_letter : ByteArray := prog_7_method_47_code
abbrev ws_M_letter : List Cond := Cond.code y_M_letter b_M_letter 3 (some .int) :: TB
abbrev y_M_look : MethodName := ⟨R_M, "look", "()V"⟩
abbrev b_M_look : ByteArray := prog_7_method_41_code
abbrev ws_M_look : List Cond := Cond.code y_M_look b_M_look 1 none :: TB
abbrev y_M_nameSize : MethodName := ⟨R_M, "nameSize", "(I)I"⟩
abbrev b_M_nameSize : ByteArray := prog_7_method_30_code
abbrev ws_M_nameSize : List Cond := Cond.code y_M_nameSize b_M_nameSize 2 (some .int) :: TB
abbrev y_M_no : MethodName := ⟨R_M, "no", "(I)Z"⟩
abbrev b_M_no : ByteArray := prog_7_method_46_code
abbrev ws_M_no : List Cond := Cond.code y_M_no b_M_no 2 (some .boolean) :: TB
abbrev y_M_none : MethodName := ⟨R_M, "none", "()Z"⟩
abbrev b_M_none : ByteArray := prog_7_method_43_code
abbrev ws_M_none : List Cond := Cond.code y_M_none b_M_none 1 (some .boolean) :: TB
abbrev y_M_one : MethodName := ⟨R_M, "one", "(I)I"⟩
abbrev b_M_one : ByteArray := prog_7_method_4_code
abbrev ws_M_one : List Cond := Cond.code y_M_one b_M_one 2 (some .int) :: TB
abbrev y_M_parts : MethodName := ⟨R_M, "parts", "(II)I"⟩
abbrev b_M_parts : ByteArray := prog_7_method_25_code
abbrev ws_M_parts : List Cond := Cond.code y_M_parts b_M_parts 2 (some .int) :: TB
abbrev y_M_pointer : MethodName := ⟨R_M, "pointer", "(II)J"⟩
abbrev b_M_pointer : ByteArray := prog_7_method_24_code
abbrev ws_M_pointer : List Cond := Cond.code y_M_pointer b_M_pointer 3 (some .long) :: TB
abbrev y_M_put : MethodName := ⟨R_M, "put", "(IIJ)Z"⟩
abbrev b_M_put : ByteArray := prog_7_method_9_code
abbrev ws_M_put : List Cond := Cond.code y_M_put b_M_put 6 (some .boolean) :: TB
abbrev y_M_sizeOf : MethodName := ⟨R_M, "sizeOf", "(I)I"⟩
abbrev b_M_sizeOf : ByteArray := prog_7_method_14_code
abbrev ws_M_sizeOf : List Cond := Cond.code y_M_sizeOf b_M_sizeOf 2 (some .int) :: TB
abbrev y_M_sizeOfInode : MethodName := ⟨R_M, "sizeOfInode", "(I)J"⟩
abbrev b_M_sizeOfInode : ByteArray := prog_7_method_23_code
abbrev ws_M_sizeOfInode : List Cond := Cond.code y_M_sizeOfInode b_M_sizeOfInode 2 (some .long) :: TB
abbrev y_M_takes : MethodName := ⟨R_M, "takes", "(J)Z"⟩
abbrev b_M_takes : ByteArray := prog_7_method_26_code
abbrev ws_M_takes : List Cond := Cond.code y_M_takes b_M_takes 3 (some .boolean) :: TB
abbrev y_M_thrown : MethodName := ⟨R_M, "thrown", "()I"⟩
abbrev b_M_thrown : ByteArray := prog_7_method_2_code
abbrev ws_M_thrown : List Cond := Cond.code y_M_thrown b_M_thrown 1 (some .int) :: TB
abbrev y_M_tree : MethodName := ⟨R_M, "tree", "()I"⟩
abbrev b_M_tree : ByteArray := prog_7_method_36_code
abbrev ws_M_tree : List Cond := Cond.code y_M_tree b_M_tree 5 (some .int) :: TB
abbrev y_M_two : MethodName := ⟨R_M, "two", "(I)I"⟩
abbrev b_M_two : ByteArray := prog_7_method_5_code
abbrev ws_M_two : List Cond := Cond.code y_M_two b_M_two 2 (some .int) :: TB
abbrev y_M_typeOf : MethodName := ⟨R_M, "typeOf", "(I)I"⟩
abbrev b_M_typeOf : ByteArray := prog_7_method_22_code
abbrev ws_M_typeOf : List Cond := Cond.code y_M_typeOf b_M_typeOf 2 (some .int) :: TB
abbrev y_M_up : MethodName := ⟨R_M, "up", "()Z"⟩
abbrev b_M_up : ByteArray := prog_7_method_51_code
abbrev ws_M_up : List Cond := Cond.code y_M_up b_M_up 1 (some .boolean) :: TB
abbrev y_S_init : MethodName := ⟨R_S, "<init>", "(LInodeVolumes$Disk;LInodeVolumes$Layout;LInodeVolumes$Entries;)V"⟩
abbrev b_S_init : ByteArray := prog_5_method_1_code
abbrev ws_S_init : List Cond := Cond.code y_S_init b_S_init 5 none :: TB
abbrev y_S_blockMapStands : MethodName := ⟨R_S, "blockMapStands", "(I)Z"⟩
abbrev b_S_blockMapStands : ByteArray := prog_5_method_25_code
abbrev ws_S_blockMapStands : List Cond := Cond.code y_S_blockMapStands b_S_blockMapStands 4 (some .boolean) :: TB
abbrev y_S_copiesStand : MethodName := ⟨R_S, "copiesStand", "()Z"⟩
abbrev b_S_copiesStand : ByteArray := prog_5_method_6_code
abbrev ws_S_copiesStand : List Cond := Cond.code y_S_copiesStand b_S_copiesStand 2 (some .boolean) :: TB
abbrev y_S_directories : MethodName := ⟨R_S, "directories", "(I)I"⟩
abbrev b_S_directories : ByteArray := prog_5_method_28_code
abbrev ws_S_directories : List Cond := Cond.code y_S_directories b_S_directories 4 (some .int) :: TB
abbrev y_S_entriesStand : MethodName := ⟨R_S, "entriesStand", "(II)Z"⟩
abbrev b_S_entriesStand : ByteArray := prog_5_method_16_code
abbrev ws_S_entriesStand : List Cond := Cond.code y_S_entriesStand b_S_entriesStand 6 (some .boolean) :: TB
abbrev y_S_entryStands : MethodName := ⟨R_S, "entryStands", "(II)Z"⟩
abbrev b_S_entryStands : ByteArray := prog_5_method_17_code
abbrev ws_S_entryStands : List Cond := Cond.code y_S_entryStands b_S_entryStands 5 (some .boolean) :: TB
abbrev y_S_firstFault : MethodName := ⟨R_S, "firstFault", "()I"⟩
abbrev b_S_firstFault : ByteArray := prog_5_method_3_code
abbrev ws_S_firstFault : List Cond := Cond.code y_S_firstFault b_S_firstFault 1 (some .int) :: TB
abbrev y_S_fix : MethodName := ⟨R_S, "fix", "(II)V"⟩
abbrev b_S_fix : ByteArray := prog_5_method_9_code
abbrev ws_S_fix : List Cond := Cond.code y_S_fix b_S_fix 4 none :: TB
abbrev y_S_forget : MethodName := ⟨R_S, "forget", "()V"⟩
abbrev b_S_forget : ByteArray := prog_5_method_2_code
abbrev ws_S_forget : List Cond := Cond.code y_S_forget b_S_forget 1 none :: TB
abbrev y_S_freeBlocks : MethodName := ⟨R_S, "freeBlocks", "(I)I"⟩
abbrev b_S_freeBlocks : ByteArray := prog_5_method_26_code
abbrev ws_S_freeBlocks : List Cond := Cond.code y_S_freeBlocks b_S_freeBlocks 5 (some .int) :: TB
abbrev y_S_freeInodes : MethodName := ⟨R_S, "freeInodes", "(I)I"⟩
abbrev b_S_freeInodes : ByteArray := prog_5_method_27_code
abbrev ws_S_freeInodes : List Cond := Cond.code y_S_freeInodes b_S_freeInodes 4 (some .int) :: TB
abbrev y_S_groupsStand : MethodName := ⟨R_S, "groupsStand", "()Z"⟩
abbrev b_S_groupsStand : ByteArray := prog_5_method_8_code
abbrev ws_S_groupsStand : List Cond := Cond.code y_S_groupsStand b_S_groupsStand 7 (some .boolean) :: TB
abbrev y_S_hasCopies : MethodName := ⟨R_S, "hasCopies", "(I)Z"⟩
abbrev b_S_hasCopies : ByteArray := prog_5_method_7_code
abbrev ws_S_hasCopies : List Cond := Cond.code y_S_hasCopies b_S_hasCopies 7 (some .boolean) :: TB
abbrev y_S_inodesStand : MethodName := ⟨R_S, "inodesStand", "()Z"⟩
abbrev b_S_inodesStand : ByteArray := prog_5_method_21_code
abbrev ws_S_inodesStand : List Cond := Cond.code y_S_inodesStand b_S_inodesStand 3 (some .boolean) :: TB
abbrev y_S_isBlank : MethodName := ⟨R_S, "isBlank", "(I)Z"⟩
abbrev b_S_isBlank : ByteArray := prog_5_method_22_code
abbrev ws_S_isBlank : List Cond := Cond.code y_S_isBlank b_S_isBlank 5 (some .boolean) :: TB
abbrev y_S_isKnown : MethodName := ⟨R_S, "isKnown", "(I)Z"⟩
abbrev b_S_isKnown : ByteArray := prog_5_method_12_code
abbrev ws_S_isKnown : List Cond := Cond.code y_S_isKnown b_S_isKnown 2 (some .boolean) :: TB
abbrev y_S_isTaken : MethodName := ⟨R_S, "isTaken", "(I)Z"⟩
abbrev b_S_isTaken : ByteArray := prog_5_method_24_code
abbrev ws_S_isTaken : List Cond := Cond.code y_S_isTaken b_S_isTaken 2 (some .boolean) :: TB
abbrev y_S_itemsComeUp : MethodName := ⟨R_S, "itemsComeUp", "(I)Z"⟩
abbrev b_S_itemsComeUp : ByteArray := prog_5_method_18_code
abbrev ws_S_itemsComeUp : List Cond := Cond.code y_S_itemsComeUp b_S_itemsComeUp 5 (some .boolean) :: TB
abbrev y_S_lateFault : MethodName := ⟨R_S, "lateFault", "()I"⟩
abbrev b_S_lateFault : ByteArray := prog_5_method_19_code
abbrev ws_S_lateFault : List Cond := Cond.code y_S_lateFault b_S_lateFault 1 (some .int) :: TB
abbrev y_S_linksStand : MethodName := ⟨R_S, "linksStand", "()Z"⟩
abbrev b_S_linksStand : ByteArray := prog_5_method_20_code
abbrev ws_S_linksStand : List Cond := Cond.code y_S_linksStand b_S_linksStand 3 (some .boolean) :: TB
abbrev y_S_mapsStand : MethodName := ⟨R_S, "mapsStand", "()Z"⟩
abbrev b_S_mapsStand : ByteArray := prog_5_method_23_code
abbrev ws_S_mapsStand : List Cond := Cond.code y_S_mapsStand b_S_mapsStand 6 (some .boolean) :: TB
abbrev y_S_spareAreZero : MethodName := ⟨R_S, "spareAreZero", "(II)Z"⟩
abbrev b_S_spareAreZero : ByteArray := prog_5_method_14_code
abbrev ws_S_spareAreZero : List Cond := Cond.code y_S_spareAreZero b_S_spareAreZero 6 (some .boolean) :: TB
abbrev y_S_standInLine : MethodName := ⟨R_S, "standInLine", "(II)V"⟩
abbrev b_S_standInLine : ByteArray := prog_5_method_11_code
abbrev ws_S_standInLine : List Cond := Cond.code y_S_standInLine b_S_standInLine 3 none :: TB
abbrev y_S_superblockHas : MethodName := ⟨R_S, "superblockHas", "(IIJ)Z"⟩
abbrev b_S_superblockHas : ByteArray := prog_5_method_5_code
abbrev ws_S_superblockHas : List Cond := Cond.code y_S_superblockHas b_S_superblockHas 5 (some .boolean) :: TB
abbrev y_S_superblockStands : MethodName := ⟨R_S, "superblockStands", "()Z"⟩
abbrev b_S_superblockStands : ByteArray := prog_5_method_4_code
abbrev ws_S_superblockStands : List Cond := Cond.code y_S_superblockStands b_S_superblockStands 1 (some .boolean) :: TB
abbrev y_S_take : MethodName := ⟨R_S, "take", "(J)Z"⟩
abbrev b_S_take : ByteArray := prog_5_method_15_code
abbrev ws_S_take : List Cond := Cond.code y_S_take b_S_take 4 (some .boolean) :: TB
abbrev y_S_takeWhole : MethodName := ⟨R_S, "takeWhole", "(I)Z"⟩
abbrev b_S_takeWhole : ByteArray := prog_5_method_13_code
abbrev ws_S_takeWhole : List Cond := Cond.code y_S_takeWhole b_S_takeWhole 10 (some .boolean) :: TB
abbrev y_S_treeFault : MethodName := ⟨R_S, "treeFault", "()I"⟩
abbrev b_S_treeFault : ByteArray := prog_5_method_10_code
abbrev ws_S_treeFault : List Cond := Cond.code y_S_treeFault b_S_treeFault 2 (some .int) :: TB
abbrev y_V_init : MethodName := ⟨R_V, "<init>", "(I)V"⟩
abbrev b_V_init : ByteArray := prog_1_method_1_code
abbrev ws_V_init : List Cond := Cond.code y_V_init b_V_init 2 none :: TB
abbrev y_V_about : MethodName := ⟨R_V, "about", "(II)J"⟩
abbrev b_V_about : ByteArray := prog_1_method_9_code
abbrev ws_V_about : List Cond := Cond.code y_V_about b_V_about 4 (some .long) :: TB
abbrev y_V_beginAgain : MethodName := ⟨R_V, "beginAgain", "()V"⟩
abbrev b_V_beginAgain : ByteArray := prog_1_method_13_code
abbrev ws_V_beginAgain : List Cond := Cond.code y_V_beginAgain b_V_beginAgain 1 none :: TB
abbrev y_V_byteAt : MethodName := ⟨R_V, "byteAt", "(I)I"⟩
abbrev b_V_byteAt : ByteArray := prog_1_method_5_code
abbrev ws_V_byteAt : List Cond := Cond.code y_V_byteAt b_V_byteAt 2 (some .int) :: TB
abbrev y_V_content : MethodName := ⟨R_V, "content", "(II)I"⟩
abbrev b_V_content : ByteArray := prog_1_method_10_code
abbrev ws_V_content : List Cond := Cond.code y_V_content b_V_content 4 (some .int) :: TB
abbrev y_V_copy : MethodName := ⟨R_V, "copy", "(III)Z"⟩
abbrev b_V_copy : ByteArray := prog_1_method_4_code
abbrev ws_V_copy : List Cond := Cond.code y_V_copy b_V_copy 4 (some .boolean) :: TB
abbrev y_V_countItems : MethodName := ⟨R_V, "countItems", "()I"⟩
abbrev b_V_countItems : ByteArray := prog_1_method_14_code
abbrev ws_V_countItems : List Cond := Cond.code y_V_countItems b_V_countItems 3 (some .int) :: TB
abbrev y_V_enter : MethodName := ⟨R_V, "enter", "(I)I"⟩
abbrev b_V_enter : ByteArray := prog_1_method_11_code
abbrev ws_V_enter : List Cond := Cond.code y_V_enter b_V_enter 3 (some .int) :: TB
abbrev y_V_fault : MethodName := ⟨R_V, "fault", "()I"⟩
abbrev b_V_fault : ByteArray := prog_1_method_6_code
abbrev ws_V_fault : List Cond := Cond.code y_V_fault b_V_fault 1 (some .int) :: TB
abbrev y_V_fill : MethodName := ⟨R_V, "fill", "(III)Z"⟩
abbrev b_V_fill : ByteArray := prog_1_method_3_code
abbrev ws_V_fill : List Cond := Cond.code y_V_fill b_V_fill 4 (some .boolean) :: TB
abbrev y_V_items : MethodName := ⟨R_V, "items", "()I"⟩
abbrev b_V_items : ByteArray := prog_1_method_7_code
abbrev ws_V_items : List Cond := Cond.code y_V_items b_V_items 1 (some .int) :: TB
abbrev y_V_lastBlock : MethodName := ⟨R_V, "lastBlock", "(I)J"⟩
abbrev b_V_lastBlock : ByteArray := prog_1_method_16_code
abbrev ws_V_lastBlock : List Cond := Cond.code y_V_lastBlock b_V_lastBlock 3 (some .long) :: TB
abbrev y_V_letter : MethodName := ⟨R_V, "letter", "(II)I"⟩
abbrev b_V_letter : ByteArray := prog_1_method_8_code
abbrev ws_V_letter : List Cond := Cond.code y_V_letter b_V_letter 3 (some .int) :: TB
abbrev y_V_put : MethodName := ⟨R_V, "put", "(IIJ)Z"⟩
abbrev b_V_put : ByteArray := prog_1_method_2_code
abbrev ws_V_put : List Cond := Cond.code y_V_put b_V_put 5 (some .boolean) :: TB
abbrev y_V_seekItem : MethodName := ⟨R_V, "seekItem", "(I)V"⟩
abbrev b_V_seekItem : ByteArray := prog_1_method_15_code
abbrev ws_V_seekItem : List Cond := Cond.code y_V_seekItem b_V_seekItem 4 none :: TB
abbrev y_V_up : MethodName := ⟨R_V, "up", "()Z"⟩
abbrev b_V_up : ByteArray := prog_1_method_12_code
abbrev ws_V_up : List Cond := Cond.code y_V_up b_V_up 1 (some .boolean) :: TB
def wC (h : Nat → Nat) (cI : ClassId) (cL : ClassId) (NW : Nat) (bk : Int32) (sz : Int32) (wd : Nat → Int64) (mb : Nat → Int32) (gB : Int32) (gI : Int32) (gN : Int32) (iN : Int32) (dr : Int32) (es : Int64) (of : Int64) (od : Int32) (pl : Int64) (hd : Int64) (tk : Nat → Int32) (kn : Nat → Int32) (li : Nat → Int32) (pa : Nat → Int32) (ins : Nat → Int32) (cm : Int32) (fd : Int32) (hr : Int32) : va_W := [
  (h 0, .inr (4, [.ref (h 1), .ref (h 3), .ref (h 5), .ref (h 6), .int hr])),
  (h 1, .inr (0, [.int bk, .int sz, .ref (h 2)])),
  (h 2, .inl (cL, NW, .inr (.inl wd))),
  (h 3, .inr (2, [.ref (h 1), .ref (h 4), .int gB, .int gI, .int gN, .int iN])),
  (h 4, .inl (cI, 8, .inl mb)),
  (h 5, .inr (1, [.ref (h 1), .ref (h 3), .int dr, .long es, .long of, .int od, .long pl, .long hd])),
  (h 6, .inr (3, [.ref (h 1), .ref (h 3), .ref (h 5), .ref (h 7), .ref (h 8), .ref (h 9), .ref (h 10), .ref (h 11), .int cm, .int fd])),
  (h 7, .inl (cI, 512, .inl tk)),
  (h 8, .inl (cI, 4097, .inl kn)),
  (h 9, .inl (cI, 4096, .inl li)),
  (h 10, .inl (cI, 4096, .inl pa)),
  (h 11, .inl (cI, 4096, .inl ins))]
end
section
/-! functions in Option: how a walked branch, guard or call takes the function's equation apart -/
theorem ite_t {α : Type} {c : Prop} [inst : Decidable c] {a b r : α} (hc : c) (h : (if c then a else b) = r) : a = r := by rwa [if_pos hc] at h
theorem ite_f {α : Type} {c : Prop} [inst : Decidable c] {a b r : α} (hc : ¬ c) (h : (if c then a else b) = r) : b = r := by rwa [if_neg hc] at h
theorem gd_s {α : Type} {c : Prop} [inst : Decidable c] {b : Option α} {r : α} (h : (if c then none else b) = some r) : ¬ c ∧ b = some r := by
  by_cases hc : c
  · rw [if_pos hc] at h; cases h
  · rw [if_neg hc] at h; exact ⟨hc, h⟩
theorem gp_s {α : Type} {c : Prop} [inst : Decidable c] {b : Option α} {r : α} (h : (if c then b else none) = some r) : c ∧ b = some r := by
  by_cases hc : c
  · rw [if_pos hc] at h; exact ⟨hc, h⟩
  · rw [if_neg hc] at h; cases h
def bd1 {α1 ρ : Type} (o : Option (α1)) (f : α1 → Option ρ) : Option ρ := match o with | none => none | some a1 => f a1
def bd2 {α1 α2 ρ : Type} (o : Option (α1 × α2)) (f : α1 → α2 → Option ρ) : Option ρ := match o with | none => none | some (a1, a2) => f a1 a2
def bd3 {α1 α2 α3 ρ : Type} (o : Option (α1 × α2 × α3)) (f : α1 → α2 → α3 → Option ρ) : Option ρ := match o with | none => none | some (a1, a2, a3) => f a1 a2 a3
def bd4 {α1 α2 α3 α4 ρ : Type} (o : Option (α1 × α2 × α3 × α4)) (f : α1 → α2 → α3 → α4 → Option ρ) : Option ρ := match o with | none => none | some (a1, a2, a3, a4) => f a1 a2 a3 a4
def bd5 {α1 α2 α3 α4 α5 ρ : Type} (o : Option (α1 × α2 × α3 × α4 × α5)) (f : α1 → α2 → α3 → α4 → α5 → Option ρ) : Option ρ := match o with | none => none | some (a1, a2, a3, a4, a5) => f a1 a2 a3 a4 a5
def bd6 {α1 α2 α3 α4 α5 α6 ρ : Type} (o : Option (α1 × α2 × α3 × α4 × α5 × α6)) (f : α1 → α2 → α3 → α4 → α5 → α6 → Option ρ) : Option ρ := match o with | none => none | some (a1, a2, a3, a4, a5, a6) => f a1 a2 a3 a4 a5 a6
def bd7 {α1 α2 α3 α4 α5 α6 α7 ρ : Type} (o : Option (α1 × α2 × α3 × α4 × α5 × α6 × α7)) (f : α1 → α2 → α3 → α4 → α5 → α6 → α7 → Option ρ) : Option ρ := match o with | none => none | some (a1, a2, a3, a4, a5, a6, a7) => f a1 a2 a3 a4 a5 a6 a7
def bd8 {α1 α2 α3 α4 α5 α6 α7 α8 ρ : Type} (o : Option (α1 × α2 × α3 × α4 × α5 × α6 × α7 × α8)) (f : α1 → α2 → α3 → α4 → α5 → α6 → α7 → α8 → Option ρ) : Option ρ := match o with | none => none | some (a1, a2, a3, a4, a5, a6, a7, a8) => f a1 a2 a3 a4 a5 a6 a7 a8
def bd9 {α1 α2 α3 α4 α5 α6 α7 α8 α9 ρ : Type} (o : Option (α1 × α2 × α3 × α4 × α5 × α6 × α7 × α8 × α9)) (f : α1 → α2 → α3 → α4 → α5 → α6 → α7 → α8 → α9 → Option ρ) : Option ρ := match o with | none => none | some (a1, a2, a3, a4, a5, a6, a7, a8, a9) => f a1 a2 a3 a4 a5 a6 a7 a8 a9
def bd10 {α1 α2 α3 α4 α5 α6 α7 α8 α9 α10 ρ : Type} (o : Option (α1 × α2 × α3 × α4 × α5 × α6 × α7 × α8 × α9 × α10)) (f : α1 → α2 → α3 → α4 → α5 → α6 → α7 → α8 → α9 → α10 → Option ρ) : Option ρ := match o with | none => none | some (a1, a2, a3, a4, a5, a6, a7, a8, a9, a10) => f a1 a2 a3 a4 a5 a6 a7 a8 a9 a10
def bd11 {α1 α2 α3 α4 α5 α6 α7 α8 α9 α10 α11 ρ : Type} (o : Option (α1 × α2 × α3 × α4 × α5 × α6 × α7 × α8 × α9 × α10 × α11)) (f : α1 → α2 → α3 → α4 → α5 → α6 → α7 → α8 → α9 → α10 → α11 → Option ρ) : Option ρ := match o with | none => none | some (a1, a2, a3, a4, a5, a6, a7, a8, a9, a10, a11) => f a1 a2 a3 a4 a5 a6 a7 a8 a9 a10 a11
def bd12 {α1 α2 α3 α4 α5 α6 α7 α8 α9 α10 α11 α12 ρ : Type} (o : Option (α1 × α2 × α3 × α4 × α5 × α6 × α7 × α8 × α9 × α10 × α11 × α12)) (f : α1 → α2 → α3 → α4 → α5 → α6 → α7 → α8 → α9 → α10 → α11 → α12 → Option ρ) : Option ρ := match o with | none => none | some (a1, a2, a3, a4, a5, a6, a7, a8, a9, a10, a11, a12) => f a1 a2 a3 a4 a5 a6 a7 a8 a9 a10 a11 a12
def bd13 {α1 α2 α3 α4 α5 α6 α7 α8 α9 α10 α11 α12 α13 ρ : Type} (o : Option (α1 × α2 × α3 × α4 × α5 × α6 × α7 × α8 × α9 × α10 × α11 × α12 × α13)) (f : α1 → α2 → α3 → α4 → α5 → α6 → α7 → α8 → α9 → α10 → α11 → α12 → α13 → Option ρ) : Option ρ := match o with | none => none | some (a1, a2, a3, a4, a5, a6, a7, a8, a9, a10, a11, a12, a13) => f a1 a2 a3 a4 a5 a6 a7 a8 a9 a10 a11 a12 a13
def bd14 {α1 α2 α3 α4 α5 α6 α7 α8 α9 α10 α11 α12 α13 α14 ρ : Type} (o : Option (α1 × α2 × α3 × α4 × α5 × α6 × α7 × α8 × α9 × α10 × α11 × α12 × α13 × α14)) (f : α1 → α2 → α3 → α4 → α5 → α6 → α7 → α8 → α9 → α10 → α11 → α12 → α13 → α14 → Option ρ) : Option ρ := match o with | none => none | some (a1, a2, a3, a4, a5, a6, a7, a8, a9, a10, a11, a12, a13, a14) => f a1 a2 a3 a4 a5 a6 a7 a8 a9 a10 a11 a12 a13 a14
def bd15 {α1 α2 α3 α4 α5 α6 α7 α8 α9 α10 α11 α12 α13 α14 α15 ρ : Type} (o : Option (α1 × α2 × α3 × α4 × α5 × α6 × α7 × α8 × α9 × α10 × α11 × α12 × α13 × α14 × α15)) (f : α1 → α2 → α3 → α4 → α5 → α6 → α7 → α8 → α9 → α10 → α11 → α12 → α13 → α14 → α15 → Option ρ) : Option ρ := match o with | none => none | some (a1, a2, a3, a4, a5, a6, a7, a8, a9, a10, a11, a12, a13, a14, a15) => f a1 a2 a3 a4 a5 a6 a7 a8 a9 a10 a11 a12 a13 a14 a15
def bd16 {α1 α2 α3 α4 α5 α6 α7 α8 α9 α10 α11 α12 α13 α14 α15 α16 ρ : Type} (o : Option (α1 × α2 × α3 × α4 × α5 × α6 × α7 × α8 × α9 × α10 × α11 × α12 × α13 × α14 × α15 × α16)) (f : α1 → α2 → α3 → α4 → α5 → α6 → α7 → α8 → α9 → α10 → α11 → α12 → α13 → α14 → α15 → α16 → Option ρ) : Option ρ := match o with | none => none | some (a1, a2, a3, a4, a5, a6, a7, a8, a9, a10, a11, a12, a13, a14, a15, a16) => f a1 a2 a3 a4 a5 a6 a7 a8 a9 a10 a11 a12 a13 a14 a15 a16
def bd17 {α1 α2 α3 α4 α5 α6 α7 α8 α9 α10 α11 α12 α13 α14 α15 α16 α17 ρ : Type} (o : Option (α1 × α2 × α3 × α4 × α5 × α6 × α7 × α8 × α9 × α10 × α11 × α12 × α13 × α14 × α15 × α16 × α17)) (f : α1 → α2 → α3 → α4 → α5 → α6 → α7 → α8 → α9 → α10 → α11 → α12 → α13 → α14 → α15 → α16 → α17 → Option ρ) : Option ρ := match o with | none => none | some (a1, a2, a3, a4, a5, a6, a7, a8, a9, a10, a11, a12, a13, a14, a15, a16, a17) => f a1 a2 a3 a4 a5 a6 a7 a8 a9 a10 a11 a12 a13 a14 a15 a16 a17
def bd18 {α1 α2 α3 α4 α5 α6 α7 α8 α9 α10 α11 α12 α13 α14 α15 α16 α17 α18 ρ : Type} (o : Option (α1 × α2 × α3 × α4 × α5 × α6 × α7 × α8 × α9 × α10 × α11 × α12 × α13 × α14 × α15 × α16 × α17 × α18)) (f : α1 → α2 → α3 → α4 → α5 → α6 → α7 → α8 → α9 → α10 → α11 → α12 → α13 → α14 → α15 → α16 → α17 → α18 → Option ρ) : Option ρ := match o with | none => none | some (a1, a2, a3, a4, a5, a6, a7, a8, a9, a10, a11, a12, a13, a14, a15, a16, a17, a18) => f a1 a2 a3 a4 a5 a6 a7 a8 a9 a10 a11 a12 a13 a14 a15 a16 a17 a18
def bd19 {α1 α2 α3 α4 α5 α6 α7 α8 α9 α10 α11 α12 α13 α14 α15 α16 α17 α18 α19 ρ : Type} (o : Option (α1 × α2 × α3 × α4 × α5 × α6 × α7 × α8 × α9 × α10 × α11 × α12 × α13 × α14 × α15 × α16 × α17 × α18 × α19)) (f : α1 → α2 → α3 → α4 → α5 → α6 → α7 → α8 → α9 → α10 → α11 → α12 → α13 → α14 → α15 → α16 → α17 → α18 → α19 → Option ρ) : Option ρ := match o with | none => none | some (a1, a2, a3, a4, a5, a6, a7, a8, a9, a10, a11, a12, a13, a14, a15, a16, a17, a18, a19) => f a1 a2 a3 a4 a5 a6 a7 a8 a9 a10 a11 a12 a13 a14 a15 a16 a17 a18 a19
def bd20 {α1 α2 α3 α4 α5 α6 α7 α8 α9 α10 α11 α12 α13 α14 α15 α16 α17 α18 α19 α20 ρ : Type} (o : Option (α1 × α2 × α3 × α4 × α5 × α6 × α7 × α8 × α9 × α10 × α11 × α12 × α13 × α14 × α15 × α16 × α17 × α18 × α19 × α20)) (f : α1 → α2 → α3 → α4 → α5 → α6 → α7 → α8 → α9 → α10 → α11 → α12 → α13 → α14 → α15 → α16 → α17 → α18 → α19 → α20 → Option ρ) : Option ρ := match o with | none => none | some (a1, a2, a3, a4, a5, a6, a7, a8, a9, a10, a11, a12, a13, a14, a15, a16, a17, a18, a19, a20) => f a1 a2 a3 a4 a5 a6 a7 a8 a9 a10 a11 a12 a13 a14 a15 a16 a17 a18 a19 a20
theorem bd1_s {α1 ρ : Type} {o : Option (α1)} {f : α1 → Option ρ} {r : ρ} (h : bd1 o f = some r) : ∃ a1, o = some a1 ∧ f a1 = some r := by
  cases o with
  | none => cases h
  | some a => exact ⟨a, rfl, h⟩
theorem bd2_s {α1 α2 ρ : Type} {o : Option (α1 × α2)} {f : α1 → α2 → Option ρ} {r : ρ} (h : bd2 o f = some r) : ∃ a1 a2, o = some (a1, a2) ∧ f a1 a2 = some r := by
  cases o with
  | none => cases h
  | some a => exact ⟨a.1, a.2, rfl, h⟩
theorem bd3_s {α1 α2 α3 ρ : Type} {o : Option (α1 × α2 × α3)} {f : α1 → α2 → α3 → Option ρ} {r : ρ} (h : bd3 o f = some r) : ∃ a1 a2 a3, o = some (a1, a2, a3) ∧ f a1 a2 a3 = some r := by
  cases o with
  | none => cases h
  | some a => exact ⟨a.1, a.2.1, a.2.2, rfl, h⟩
theorem bd4_s {α1 α2 α3 α4 ρ : Type} {o : Option (α1 × α2 × α3 × α4)} {f : α1 → α2 → α3 → α4 → Option ρ} {r : ρ} (h : bd4 o f = some r) : ∃ a1 a2 a3 a4, o = some (a1, a2, a3, a4) ∧ f a1 a2 a3 a4 = some r := by
  cases o with
  | none => cases h
  | some a => exact ⟨a.1, a.2.1, a.2.2.1, a.2.2.2, rfl, h⟩
theorem bd5_s {α1 α2 α3 α4 α5 ρ : Type} {o : Option (α1 × α2 × α3 × α4 × α5)} {f : α1 → α2 → α3 → α4 → α5 → Option ρ} {r : ρ} (h : bd5 o f = some r) : ∃ a1 a2 a3 a4 a5, o = some (a1, a2, a3, a4, a5) ∧ f a1 a2 a3 a4 a5 = some r := by
  cases o with
  | none => cases h
  | some a => exact ⟨a.1, a.2.1, a.2.2.1, a.2.2.2.1, a.2.2.2.2, rfl, h⟩
theorem bd6_s {α1 α2 α3 α4 α5 α6 ρ : Type} {o : Option (α1 × α2 × α3 × α4 × α5 × α6)} {f : α1 → α2 → α3 → α4 → α5 → α6 → Option ρ} {r : ρ} (h : bd6 o f = some r) : ∃ a1 a2 a3 a4 a5 a6, o = some (a1, a2, a3, a4, a5, a6) ∧ f a1 a2 a3 a4 a5 a6 = some r := by
  cases o with
  | none => cases h
  | some a => exact ⟨a.1, a.2.1, a.2.2.1, a.2.2.2.1, a.2.2.2.2.1, a.2.2.2.2.2, rfl, h⟩
theorem bd7_s {α1 α2 α3 α4 α5 α6 α7 ρ : Type} {o : Option (α1 × α2 × α3 × α4 × α5 × α6 × α7)} {f : α1 → α2 → α3 → α4 → α5 → α6 → α7 → Option ρ} {r : ρ} (h : bd7 o f = some r) : ∃ a1 a2 a3 a4 a5 a6 a7, o = some (a1, a2, a3, a4, a5, a6, a7) ∧ f a1 a2 a3 a4 a5 a6 a7 = some r := by
  cases o with
  | none => cases h
  | some a => exact ⟨a.1, a.2.1, a.2.2.1, a.2.2.2.1, a.2.2.2.2.1, a.2.2.2.2.2.1, a.2.2.2.2.2.2, rfl, h⟩
theorem bd8_s {α1 α2 α3 α4 α5 α6 α7 α8 ρ : Type} {o : Option (α1 × α2 × α3 × α4 × α5 × α6 × α7 × α8)} {f : α1 → α2 → α3 → α4 → α5 → α6 → α7 → α8 → Option ρ} {r : ρ} (h : bd8 o f = some r) : ∃ a1 a2 a3 a4 a5 a6 a7 a8, o = some (a1, a2, a3, a4, a5, a6, a7, a8) ∧ f a1 a2 a3 a4 a5 a6 a7 a8 = some r := by
  cases o with
  | none => cases h
  | some a => exact ⟨a.1, a.2.1, a.2.2.1, a.2.2.2.1, a.2.2.2.2.1, a.2.2.2.2.2.1, a.2.2.2.2.2.2.1, a.2.2.2.2.2.2.2, rfl, h⟩
theorem bd9_s {α1 α2 α3 α4 α5 α6 α7 α8 α9 ρ : Type} {o : Option (α1 × α2 × α3 × α4 × α5 × α6 × α7 × α8 × α9)} {f : α1 → α2 → α3 → α4 → α5 → α6 → α7 → α8 → α9 → Option ρ} {r : ρ} (h : bd9 o f = some r) : ∃ a1 a2 a3 a4 a5 a6 a7 a8 a9, o = some (a1, a2, a3, a4, a5, a6, a7, a8, a9) ∧ f a1 a2 a3 a4 a5 a6 a7 a8 a9 = some r := by
  cases o with
  | none => cases h
  | some a => exact ⟨a.1, a.2.1, a.2.2.1, a.2.2.2.1, a.2.2.2.2.1, a.2.2.2.2.2.1, a.2.2.2.2.2.2.1, a.2.2.2.2.2.2.2.1, a.2.2.2.2.2.2.2.2, rfl, h⟩
theorem bd10_s {α1 α2 α3 α4 α5 α6 α7 α8 α9 α10 ρ : Type} {o : Option (α1 × α2 × α3 × α4 × α5 × α6 × α7 × α8 × α9 × α10)} {f : α1 → α2 → α3 → α4 → α5 → α6 → α7 → α8 → α9 → α10 → Option ρ} {r : ρ} (h : bd10 o f = some r) : ∃ a1 a2 a3 a4 a5 a6 a7 a8 a9 a10, o = some (a1, a2, a3, a4, a5, a6, a7, a8, a9, a10) ∧ f a1 a2 a3 a4 a5 a6 a7 a8 a9 a10 = some r := by
  cases o with
  | none => cases h
  | some a => exact ⟨a.1, a.2.1, a.2.2.1, a.2.2.2.1, a.2.2.2.2.1, a.2.2.2.2.2.1, a.2.2.2.2.2.2.1, a.2.2.2.2.2.2.2.1, a.2.2.2.2.2.2.2.2.1, a.2.2.2.2.2.2.2.2.2, rfl, h⟩
theorem bd11_s {α1 α2 α3 α4 α5 α6 α7 α8 α9 α10 α11 ρ : Type} {o : Option (α1 × α2 × α3 × α4 × α5 × α6 × α7 × α8 × α9 × α10 × α11)} {f : α1 → α2 → α3 → α4 → α5 → α6 → α7 → α8 → α9 → α10 → α11 → Option ρ} {r : ρ} (h : bd11 o f = some r) : ∃ a1 a2 a3 a4 a5 a6 a7 a8 a9 a10 a11, o = some (a1, a2, a3, a4, a5, a6, a7, a8, a9, a10, a11) ∧ f a1 a2 a3 a4 a5 a6 a7 a8 a9 a10 a11 = some r := by
  cases o with
  | none => cases h
  | some a => exact ⟨a.1, a.2.1, a.2.2.1, a.2.2.2.1, a.2.2.2.2.1, a.2.2.2.2.2.1, a.2.2.2.2.2.2.1, a.2.2.2.2.2.2.2.1, a.2.2.2.2.2.2.2.2.1, a.2.2.2.2.2.2.2.2.2.1, a.2.2.2.2.2.2.2.2.2.2, rfl, h⟩
theorem bd12_s {α1 α2 α3 α4 α5 α6 α7 α8 α9 α10 α11 α12 ρ : Type} {o : Option (α1 × α2 × α3 × α4 × α5 × α6 × α7 × α8 × α9 × α10 × α11 × α12)} {f : α1 → α2 → α3 → α4 → α5 → α6 → α7 → α8 → α9 → α10 → α11 → α12 → Option ρ} {r : ρ} (h : bd12 o f = some r) : ∃ a1 a2 a3 a4 a5 a6 a7 a8 a9 a10 a11 a12, o = some (a1, a2, a3, a4, a5, a6, a7, a8, a9, a10, a11, a12) ∧ f a1 a2 a3 a4 a5 a6 a7 a8 a9 a10 a11 a12 = some r := by
  cases o with
  | none => cases h
  | some a => exact ⟨a.1, a.2.1, a.2.2.1, a.2.2.2.1, a.2.2.2.2.1, a.2.2.2.2.2.1, a.2.2.2.2.2.2.1, a.2.2.2.2.2.2.2.1, a.2.2.2.2.2.2.2.2.1, a.2.2.2.2.2.2.2.2.2.1, a.2.2.2.2.2.2.2.2.2.2.1, a.2.2.2.2.2.2.2.2.2.2.2, rfl, h⟩
theorem bd13_s {α1 α2 α3 α4 α5 α6 α7 α8 α9 α10 α11 α12 α13 ρ : Type} {o : Option (α1 × α2 × α3 × α4 × α5 × α6 × α7 × α8 × α9 × α10 × α11 × α12 × α13)} {f : α1 → α2 → α3 → α4 → α5 → α6 → α7 → α8 → α9 → α10 → α11 → α12 → α13 → Option ρ} {r : ρ} (h : bd13 o f = some r) : ∃ a1 a2 a3 a4 a5 a6 a7 a8 a9 a10 a11 a12 a13, o = some (a1, a2, a3, a4, a5, a6, a7, a8, a9, a10, a11, a12, a13) ∧ f a1 a2 a3 a4 a5 a6 a7 a8 a9 a10 a11 a12 a13 = some r := by
  cases o with
  | none => cases h
  | some a => exact ⟨a.1, a.2.1, a.2.2.1, a.2.2.2.1, a.2.2.2.2.1, a.2.2.2.2.2.1, a.2.2.2.2.2.2.1, a.2.2.2.2.2.2.2.1, a.2.2.2.2.2.2.2.2.1, a.2.2.2.2.2.2.2.2.2.1, a.2.2.2.2.2.2.2.2.2.2.1, a.2.2.2.2.2.2.2.2.2.2.2.1, a.2.2.2.2.2.2.2.2.2.2.2.2, rfl, h⟩
theorem bd14_s {α1 α2 α3 α4 α5 α6 α7 α8 α9 α10 α11 α12 α13 α14 ρ : Type} {o : Option (α1 × α2 × α3 × α4 × α5 × α6 × α7 × α8 × α9 × α10 × α11 × α12 × α13 × α14)} {f : α1 → α2 → α3 → α4 → α5 → α6 → α7 → α8 → α9 → α10 → α11 → α12 → α13 → α14 → Option ρ} {r : ρ} (h : bd14 o f = some r) : ∃ a1 a2 a3 a4 a5 a6 a7 a8 a9 a10 a11 a12 a13 a14, o = some (a1, a2, a3, a4, a5, a6, a7, a8, a9, a10, a11, a12, a13, a14) ∧ f a1 a2 a3 a4 a5 a6 a7 a8 a9 a10 a11 a12 a13 a14 = some r := by
  cases o with
  | none => cases h
  | some a => exact ⟨a.1, a.2.1, a.2.2.1, a.2.2.2.1, a.2.2.2.2.1, a.2.2.2.2.2.1, a.2.2.2.2.2.2.1, a.2.2.2.2.2.2.2.1, a.2.2.2.2.2.2.2.2.1, a.2.2.2.2.2.2.2.2.2.1, a.2.2.2.2.2.2.2.2.2.2.1, a.2.2.2.2.2.2.2.2.2.2.2.1, a.2.2.2.2.2.2.2.2.2.2.2.2.1, a.2.2.2.2.2.2.2.2.2.2.2.2.2, rfl, h⟩
theorem bd15_s {α1 α2 α3 α4 α5 α6 α7 α8 α9 α10 α11 α12 α13 α14 α15 ρ : Type} {o : Option (α1 × α2 × α3 × α4 × α5 × α6 × α7 × α8 × α9 × α10 × α11 × α12 × α13 × α14 × α15)} {f : α1 → α2 → α3 → α4 → α5 → α6 → α7 → α8 → α9 → α10 → α11 → α12 → α13 → α14 → α15 → Option ρ} {r : ρ} (h : bd15 o f = some r) : ∃ a1 a2 a3 a4 a5 a6 a7 a8 a9 a10 a11 a12 a13 a14 a15, o = some (a1, a2, a3, a4, a5, a6, a7, a8, a9, a10, a11, a12, a13, a14, a15) ∧ f a1 a2 a3 a4 a5 a6 a7 a8 a9 a10 a11 a12 a13 a14 a15 = some r := by
  cases o with
  | none => cases h
  | some a => exact ⟨a.1, a.2.1, a.2.2.1, a.2.2.2.1, a.2.2.2.2.1, a.2.2.2.2.2.1, a.2.2.2.2.2.2.1, a.2.2.2.2.2.2.2.1, a.2.2.2.2.2.2.2.2.1, a.2.2.2.2.2.2.2.2.2.1, a.2.2.2.2.2.2.2.2.2.2.1, a.2.2.2.2.2.2.2.2.2.2.2.1, a.2.2.2.2.2.2.2.2.2.2.2.2.1, a.2.2.2.2.2.2.2.2.2.2.2.2.2.1, a.2.2.2.2.2.2.2.2.2.2.2.2.2.2, rfl, h⟩
theorem bd16_s {α1 α2 α3 α4 α5 α6 α7 α8 α9 α10 α11 α12 α13 α14 α15 α16 ρ : Type} {o : Option (α1 × α2 × α3 × α4 × α5 × α6 × α7 × α8 × α9 × α10 × α11 × α12 × α13 × α14 × α15 × α16)} {f : α1 → α2 → α3 → α4 → α5 → α6 → α7 → α8 → α9 → α10 → α11 → α12 → α13 → α14 → α15 → α16 → Option ρ} {r : ρ} (h : bd16 o f = some r) : ∃ a1 a2 a3 a4 a5 a6 a7 a8 a9 a10 a11 a12 a13 a14 a15 a16, o = some (a1, a2, a3, a4, a5, a6, a7, a8, a9, a10, a11, a12, a13, a14, a15, a16) ∧ f a1 a2 a3 a4 a5 a6 a7 a8 a9 a10 a11 a12 a13 a14 a15 a16 = some r := by
  cases o with
  | none => cases h
  | some a => exact ⟨a.1, a.2.1, a.2.2.1, a.2.2.2.1, a.2.2.2.2.1, a.2.2.2.2.2.1, a.2.2.2.2.2.2.1, a.2.2.2.2.2.2.2.1, a.2.2.2.2.2.2.2.2.1, a.2.2.2.2.2.2.2.2.2.1, a.2.2.2.2.2.2.2.2.2.2.1, a.2.2.2.2.2.2.2.2.2.2.2.1, a.2.2.2.2.2.2.2.2.2.2.2.2.1, a.2.2.2.2.2.2.2.2.2.2.2.2.2.1, a.2.2.2.2.2.2.2.2.2.2.2.2.2.2.1, a.2.2.2.2.2.2.2.2.2.2.2.2.2.2.2, rfl, h⟩
theorem bd17_s {α1 α2 α3 α4 α5 α6 α7 α8 α9 α10 α11 α12 α13 α14 α15 α16 α17 ρ : Type} {o : Option (α1 × α2 × α3 × α4 × α5 × α6 × α7 × α8 × α9 × α10 × α11 × α12 × α13 × α14 × α15 × α16 × α17)} {f : α1 → α2 → α3 → α4 → α5 → α6 → α7 → α8 → α9 → α10 → α11 → α12 → α13 → α14 → α15 → α16 → α17 → Option ρ} {r : ρ} (h : bd17 o f = some r) : ∃ a1 a2 a3 a4 a5 a6 a7 a8 a9 a10 a11 a12 a13 a14 a15 a16 a17, o = some (a1, a2, a3, a4, a5, a6, a7, a8, a9, a10, a11, a12, a13, a14, a15, a16, a17) ∧ f a1 a2 a3 a4 a5 a6 a7 a8 a9 a10 a11 a12 a13 a14 a15 a16 a17 = some r := by
  cases o with
  | none => cases h
  | some a => exact ⟨a.1, a.2.1, a.2.2.1, a.2.2.2.1, a.2.2.2.2.1, a.2.2.2.2.2.1, a.2.2.2.2.2.2.1, a.2.2.2.2.2.2.2.1, a.2.2.2.2.2.2.2.2.1, a.2.2.2.2.2.2.2.2.2.1, a.2.2.2.2.2.2.2.2.2.2.1, a.2.2.2.2.2.2.2.2.2.2.2.1, a.2.2.2.2.2.2.2.2.2.2.2.2.1, a.2.2.2.2.2.2.2.2.2.2.2.2.2.1, a.2.2.2.2.2.2.2.2.2.2.2.2.2.2.1, a.2.2.2.2.2.2.2.2.2.2.2.2.2.2.2.1, a.2.2.2.2.2.2.2.2.2.2.2.2.2.2.2.2, rfl, h⟩
theorem bd18_s {α1 α2 α3 α4 α5 α6 α7 α8 α9 α10 α11 α12 α13 α14 α15 α16 α17 α18 ρ : Type} {o : Option (α1 × α2 × α3 × α4 × α5 × α6 × α7 × α8 × α9 × α10 × α11 × α12 × α13 × α14 × α15 × α16 × α17 × α18)} {f : α1 → α2 → α3 → α4 → α5 → α6 → α7 → α8 → α9 → α10 → α11 → α12 → α13 → α14 → α15 → α16 → α17 → α18 → Option ρ} {r : ρ} (h : bd18 o f = some r) : ∃ a1 a2 a3 a4 a5 a6 a7 a8 a9 a10 a11 a12 a13 a14 a15 a16 a17 a18, o = some (a1, a2, a3, a4, a5, a6, a7, a8, a9, a10, a11, a12, a13, a14, a15, a16, a17, a18) ∧ f a1 a2 a3 a4 a5 a6 a7 a8 a9 a10 a11 a12 a13 a14 a15 a16 a17 a18 = some r := by
  cases o with
  | none => cases h
  | some a => exact ⟨a.1, a.2.1, a.2.2.1, a.2.2.2.1, a.2.2.2.2.1, a.2.2.2.2.2.1, a.2.2.2.2.2.2.1, a.2.2.2.2.2.2.2.1, a.2.2.2.2.2.2.2.2.1, a.2.2.2.2.2.2.2.2.2.1, a.2.2.2.2.2.2.2.2.2.2.1, a.2.2.2.2.2.2.2.2.2.2.2.1, a.2.2.2.2.2.2.2.2.2.2.2.2.1, a.2.2.2.2.2.2.2.2.2.2.2.2.2.1, a.2.2.2.2.2.2.2.2.2.2.2.2.2.2.1, a.2.2.2.2.2.2.2.2.2.2.2.2.2.2.2.1, a.2.2.2.2.2.2.2.2.2.2.2.2.2.2.2.2.1, a.2.2.2.2.2.2.2.2.2.2.2.2.2.2.2.2.2, rfl, h⟩
theorem bd19_s {α1 α2 α3 α4 α5 α6 α7 α8 α9 α10 α11 α12 α13 α14 α15 α16 α17 α18 α19 ρ : Type} {o : Option (α1 × α2 × α3 × α4 × α5 × α6 × α7 × α8 × α9 × α10 × α11 × α12 × α13 × α14 × α15 × α16 × α17 × α18 × α19)} {f : α1 → α2 → α3 → α4 → α5 → α6 → α7 → α8 → α9 → α10 → α11 → α12 → α13 → α14 → α15 → α16 → α17 → α18 → α19 → Option ρ} {r : ρ} (h : bd19 o f = some r) : ∃ a1 a2 a3 a4 a5 a6 a7 a8 a9 a10 a11 a12 a13 a14 a15 a16 a17 a18 a19, o = some (a1, a2, a3, a4, a5, a6, a7, a8, a9, a10, a11, a12, a13, a14, a15, a16, a17, a18, a19) ∧ f a1 a2 a3 a4 a5 a6 a7 a8 a9 a10 a11 a12 a13 a14 a15 a16 a17 a18 a19 = some r := by
  cases o with
  | none => cases h
  | some a => exact ⟨a.1, a.2.1, a.2.2.1, a.2.2.2.1, a.2.2.2.2.1, a.2.2.2.2.2.1, a.2.2.2.2.2.2.1, a.2.2.2.2.2.2.2.1, a.2.2.2.2.2.2.2.2.1, a.2.2.2.2.2.2.2.2.2.1, a.2.2.2.2.2.2.2.2.2.2.1, a.2.2.2.2.2.2.2.2.2.2.2.1, a.2.2.2.2.2.2.2.2.2.2.2.2.1, a.2.2.2.2.2.2.2.2.2.2.2.2.2.1, a.2.2.2.2.2.2.2.2.2.2.2.2.2.2.1, a.2.2.2.2.2.2.2.2.2.2.2.2.2.2.2.1, a.2.2.2.2.2.2.2.2.2.2.2.2.2.2.2.2.1, a.2.2.2.2.2.2.2.2.2.2.2.2.2.2.2.2.2.1, a.2.2.2.2.2.2.2.2.2.2.2.2.2.2.2.2.2.2, rfl, h⟩
theorem bd20_s {α1 α2 α3 α4 α5 α6 α7 α8 α9 α10 α11 α12 α13 α14 α15 α16 α17 α18 α19 α20 ρ : Type} {o : Option (α1 × α2 × α3 × α4 × α5 × α6 × α7 × α8 × α9 × α10 × α11 × α12 × α13 × α14 × α15 × α16 × α17 × α18 × α19 × α20)} {f : α1 → α2 → α3 → α4 → α5 → α6 → α7 → α8 → α9 → α10 → α11 → α12 → α13 → α14 → α15 → α16 → α17 → α18 → α19 → α20 → Option ρ} {r : ρ} (h : bd20 o f = some r) : ∃ a1 a2 a3 a4 a5 a6 a7 a8 a9 a10 a11 a12 a13 a14 a15 a16 a17 a18 a19 a20, o = some (a1, a2, a3, a4, a5, a6, a7, a8, a9, a10, a11, a12, a13, a14, a15, a16, a17, a18, a19, a20) ∧ f a1 a2 a3 a4 a5 a6 a7 a8 a9 a10 a11 a12 a13 a14 a15 a16 a17 a18 a19 a20 = some r := by
  cases o with
  | none => cases h
  | some a => exact ⟨a.1, a.2.1, a.2.2.1, a.2.2.2.1, a.2.2.2.2.1, a.2.2.2.2.2.1, a.2.2.2.2.2.2.1, a.2.2.2.2.2.2.2.1, a.2.2.2.2.2.2.2.2.1, a.2.2.2.2.2.2.2.2.2.1, a.2.2.2.2.2.2.2.2.2.2.1, a.2.2.2.2.2.2.2.2.2.2.2.1, a.2.2.2.2.2.2.2.2.2.2.2.2.1, a.2.2.2.2.2.2.2.2.2.2.2.2.2.1, a.2.2.2.2.2.2.2.2.2.2.2.2.2.2.1, a.2.2.2.2.2.2.2.2.2.2.2.2.2.2.2.1, a.2.2.2.2.2.2.2.2.2.2.2.2.2.2.2.2.1, a.2.2.2.2.2.2.2.2.2.2.2.2.2.2.2.2.2.1, a.2.2.2.2.2.2.2.2.2.2.2.2.2.2.2.2.2.2.1, a.2.2.2.2.2.2.2.2.2.2.2.2.2.2.2.2.2.2.2, rfl, h⟩
def lt1 {α ρ : Type} (a : α) (f : α → Option ρ) : Option ρ := f a
theorem lt1_s {α ρ : Type} {a : α} {f : α → Option ρ} {r : ρ} (h : lt1 a f = some r) : ∃ x, a = x ∧ f x = some r := ⟨a, rfl, h⟩
abbrev oob (i : Int32) (n : Nat) : Prop := i < 0 ∨ n ≤ i.toNatClampNeg
abbrev is01 (v : Int32) : Prop := v = 0 ∨ v = 1
/-! a method's uniform contract: the world w comes in, the world w' goes out, the answer is r; nothing is made -/
abbrev PcU (D : va_G) (cl : List vw_C) (tys : List (ClassId × FieldType)) (w : va_W) (hs : Nat) (av : List Value) : Array Value → State → Prop := va_Pc av (fun U => U.heap.size = hs ∧ va_P D cl w U.heap ∧ va_K D cl tys U ∧ va_D (fun _ => True) w)
abbrev BU (D : va_G) (cl : List vw_C) (tys : List (ClassId × FieldType)) (w w' : va_W) (hs : Nat) : Unit → State → Prop := fun _ t => va_P D cl w' t.heap ∧ va_K D cl tys t ∧ va_D (va_A w hs) w'
abbrev QUi (D : va_G) (cl : List vw_C) (tys : List (ClassId × FieldType)) (w w' : va_W) (hs : Nat) (r : Int32) : Array Value → State → Outcome → State → Prop := va_Qi (fun (x : Int32) (_ : Unit) => x = r) (BU D cl tys w w' hs) (va_A w hs)
abbrev QUl (D : va_G) (cl : List vw_C) (tys : List (ClassId × FieldType)) (w w' : va_W) (hs : Nat) (r : Int64) : Array Value → State → Outcome → State → Prop := va_Ql (fun (x : Int64) (_ : Unit) => x = r) (BU D cl tys w w' hs) (va_A w hs)
abbrev QUv (D : va_G) (cl : List vw_C) (tys : List (ClassId × FieldType)) (w w' : va_W) (hs : Nat) : Array Value → State → Outcome → State → Prop := va_Qv (fun (_ : Unit) => True) (BU D cl tys w w' hs) (va_A w hs)
section MU
variable {l : Launch} {y : MethodName} {ws ws' : List Cond} {rm : Room} {D : va_G} {cl : List vw_C} {tys : List (ClassId × FieldType)} {w w' : va_W} {av : List Value} {cc : ByteArray} {maxL : Nat} {hs : Nat}
theorem mUi {r : Int32} (hy : plainName y.cls = true) (hw : ws = Cond.code y cc maxL (some .int) :: ws') (hav : (lg_sl av).length ≤ maxL)
    (body : ∀ (p : Program) (e : Env) (s : State) (m : MethodId) (args : Array Value) (below : List Frame) (meth : Method) (c : Code) (Q : State → Prop), p.tables.exec = Jvm.exec → c.code = cc → c.maxLocals = maxL → (∀ q ∈ ws, q.before args s = true) → s.vm.findClass y.cls = some m.cls →
      ∀ (A : Nat → Prop), (∀ q, s.heap.size ≤ q → A q) → va_K D cl tys s → va_P D cl w s.heap → va_D A w → va_S A s.heap s.heap [] →
      (∀ (H : Heap) (locs : List Loc) (pc : Nat) (ls : Array Slot), va_P D cl w' H → va_D A w' → va_S A s.heap H locs → decode cc pc = .ok (.ireturn, 1) → W p l e (headSpec ws rm).room s m args below meth c H locs 0 0 Q (F0 m pc ls [.int r])) →
      ∀ ls : Array Slot, lv_has ls maxL (lv_args 0 av) → W p l e (headSpec ws rm).room s m args below meth c s.heap [] 0 0 Q (F0 m 0 ls [])) :
    Met l y ws rm (PcU D cl tys w hs av) (QUi D cl tys w w' hs r) 0 0 (va_A w hs) := by
  refine Met.ofW (cc := cc) (maxL := maxL) (ret := some .int) hy hw ?_
  intro p e s m args below meth c s₁ B hml hv
  obtain ⟨rfl, hsz, hP, hK, hD0⟩ := hv
  subst hsz
  have hD := hD0.self (sz := s.heap.size)
  have hl := lv_entry av (n := maxL) hav
  rw [lg_entry_eq]
  have hlocks := B.notSynchronized
  refine body p e s m _ below meth c _ B.exec B.bytes hml (atoms_spec (ws := ws) B.pre) (findClass_of_methodNamed B.named) (va_A w s.heap.size) (fun q h => Or.inr h) hK hP hD va_S.rf ?_ _ hl
  intro H locs pc ls hP hD hS hdg
  exact W.iret B.exec B.bytes B.returns (fun t ht hW => ⟨⟨r, (), rfl, rfl, by rw [ht]; exact hP, va_K.moved hW.alike hK, hD⟩, hS.F ht⟩) hS.2.2 hdg
theorem mUz {r : Int32} (hy : plainName y.cls = true) (hw : ws = Cond.code y cc maxL (some .boolean) :: ws') (hav : (lg_sl av).length ≤ maxL)
    (body : ∀ (p : Program) (e : Env) (s : State) (m : MethodId) (args : Array Value) (below : List Frame) (meth : Method) (c : Code) (Q : State → Prop), p.tables.exec = Jvm.exec → c.code = cc → c.maxLocals = maxL → (∀ q ∈ ws, q.before args s = true) → s.vm.findClass y.cls = some m.cls →
      ∀ (A : Nat → Prop), (∀ q, s.heap.size ≤ q → A q) → va_K D cl tys s → va_P D cl w s.heap → va_D A w → va_S A s.heap s.heap [] →
      (∀ (H : Heap) (locs : List Loc) (pc : Nat) (ls : Array Slot), is01 r → va_P D cl w' H → va_D A w' → va_S A s.heap H locs → decode cc pc = .ok (.ireturn, 1) → W p l e (headSpec ws rm).room s m args below meth c H locs 0 0 Q (F0 m pc ls [.int r])) →
      ∀ ls : Array Slot, lv_has ls maxL (lv_args 0 av) → W p l e (headSpec ws rm).room s m args below meth c s.heap [] 0 0 Q (F0 m 0 ls [])) :
    Met l y ws rm (PcU D cl tys w hs av) (QUi D cl tys w w' hs r) 0 0 (va_A w hs) := by
  refine Met.ofW (cc := cc) (maxL := maxL) (ret := some .boolean) hy hw ?_
  intro p e s m args below meth c s₁ B hml hv
  obtain ⟨rfl, hsz, hP, hK, hD0⟩ := hv
  subst hsz
  have hD := hD0.self (sz := s.heap.size)
  have hl := lv_entry av (n := maxL) hav
  rw [lg_entry_eq]
  have hlocks := B.notSynchronized
  refine body p e s m _ below meth c _ B.exec B.bytes hml (atoms_spec (ws := ws) B.pre) (findClass_of_methodNamed B.named) (va_A w s.heap.size) (fun q h => Or.inr h) hK hP hD va_S.rf ?_ _ hl
  intro H locs pc ls h01 hP hD hS hdg
  exact W.zret B.exec B.bytes B.returns (by rcases h01 with h | h <;> subst h <;> rfl) (fun t ht hW => ⟨⟨r, (), rfl, rfl, by rw [ht]; exact hP, va_K.moved hW.alike hK, hD⟩, hS.F ht⟩) hS.2.2 hdg
theorem mUl {r : Int64} (hy : plainName y.cls = true) (hw : ws = Cond.code y cc maxL (some .long) :: ws') (hav : (lg_sl av).length ≤ maxL)
    (body : ∀ (p : Program) (e : Env) (s : State) (m : MethodId) (args : Array Value) (below : List Frame) (meth : Method) (c : Code) (Q : State → Prop), p.tables.exec = Jvm.exec → c.code = cc → c.maxLocals = maxL → (∀ q ∈ ws, q.before args s = true) → s.vm.findClass y.cls = some m.cls →
      ∀ (A : Nat → Prop), (∀ q, s.heap.size ≤ q → A q) → va_K D cl tys s → va_P D cl w s.heap → va_D A w → va_S A s.heap s.heap [] →
      (∀ (H : Heap) (locs : List Loc) (pc : Nat) (ls : Array Slot), va_P D cl w' H → va_D A w' → va_S A s.heap H locs → decode cc pc = .ok (.lreturn, 1) → W p l e (headSpec ws rm).room s m args below meth c H locs 0 0 Q (F0 m pc ls [.long r])) →
      ∀ ls : Array Slot, lv_has ls maxL (lv_args 0 av) → W p l e (headSpec ws rm).room s m args below meth c s.heap [] 0 0 Q (F0 m 0 ls [])) :
    Met l y ws rm (PcU D cl tys w hs av) (QUl D cl tys w w' hs r) 0 0 (va_A w hs) := by
  refine Met.ofW (cc := cc) (maxL := maxL) (ret := some .long) hy hw ?_
  intro p e s m args below meth c s₁ B hml hv
  obtain ⟨rfl, hsz, hP, hK, hD0⟩ := hv
  subst hsz
  have hD := hD0.self (sz := s.heap.size)
  have hl := lv_entry av (n := maxL) hav
  rw [lg_entry_eq]
  have hlocks := B.notSynchronized
  refine body p e s m _ below meth c _ B.exec B.bytes hml (atoms_spec (ws := ws) B.pre) (findClass_of_methodNamed B.named) (va_A w s.heap.size) (fun q h => Or.inr h) hK hP hD va_S.rf ?_ _ hl
  intro H locs pc ls hP hD hS hdg
  exact W.lret B.exec B.bytes B.returns (fun t ht hW => ⟨⟨r, (), rfl, rfl, by rw [ht]; exact hP, va_K.moved hW.alike hK, hD⟩, hS.F ht⟩) hS.2.2 hdg
theorem mUv (hy : plainName y.cls = true) (hw : ws = Cond.code y cc maxL none :: ws') (hav : (lg_sl av).length ≤ maxL)
    (body : ∀ (p : Program) (e : Env) (s : State) (m : MethodId) (args : Array Value) (below : List Frame) (meth : Method) (c : Code) (Q : State → Prop), p.tables.exec = Jvm.exec → c.code = cc → c.maxLocals = maxL → (∀ q ∈ ws, q.before args s = true) → s.vm.findClass y.cls = some m.cls →
      ∀ (A : Nat → Prop), (∀ q, s.heap.size ≤ q → A q) → va_K D cl tys s → va_P D cl w s.heap → va_D A w → va_S A s.heap s.heap [] →
      (∀ (H : Heap) (locs : List Loc) (pc : Nat) (ls : Array Slot), va_P D cl w' H → va_D A w' → va_S A s.heap H locs → decode cc pc = .ok (.return_, 1) → W p l e (headSpec ws rm).room s m args below meth c H locs 0 0 Q (F0 m pc ls [])) →
      ∀ ls : Array Slot, lv_has ls maxL (lv_args 0 av) → W p l e (headSpec ws rm).room s m args below meth c s.heap [] 0 0 Q (F0 m 0 ls [])) :
    Met l y ws rm (PcU D cl tys w hs av) (QUv D cl tys w w' hs) 0 0 (va_A w hs) := by
  refine Met.ofW (cc := cc) (maxL := maxL) (ret := none) hy hw ?_
  intro p e s m args below meth c s₁ B hml hv
  obtain ⟨rfl, hsz, hP, hK, hD0⟩ := hv
  subst hsz
  have hD := hD0.self (sz := s.heap.size)
  have hl := lv_entry av (n := maxL) hav
  rw [lg_entry_eq]
  have hlocks := B.notSynchronized
  refine body p e s m _ below meth c _ B.exec B.bytes hml (atoms_spec (ws := ws) B.pre) (findClass_of_methodNamed B.named) (va_A w s.heap.size) (fun q h => Or.inr h) hK hP hD va_S.rf ?_ _ hl
  intro H locs pc ls hP hD hS hdg
  exact W.vret B.exec B.bytes B.returns (fun t ht hW => ⟨⟨(), rfl, trivial, by rw [ht]; exact hP, va_K.moved hW.alike hK, hD⟩, hS.F ht⟩) hS.2.2 hdg
end MU
section UC
variable {cells slots : Nat} {p : Program} {l : Launch} {e : Env} {R : Room} {s : State} {m : MethodId} {args : Array Value} {below : List Frame} {meth : Method} {c : Code} {H : Heap} {locs : List Loc} {Q : State → Prop}
variable {cc : ByteArray} {nL : Nat} {Ts : List Cond} {own C : String} {index : Nat} {y : MethodName} {bytes : ByteArray} {maxL : Nat} {ret : Option FieldType} {ws : List Cond} {rm : Room} {n : Nat}
variable {D : va_G} {cl : List vw_C} {tys : List (ClassId × FieldType)} {w w' : va_W} {b : Nat} {As rest st0 : List Value} {A0 : Nat → Prop} {pc : Nat} {ls : Array Slot}
theorem pcU_blind {hs : Nat} {av : List Value} : FrameBlind (PcU D cl tys w hs av) := fun a U g mk q => by
  obtain ⟨q0, q1, qP, qK, qD⟩ := q
  exact ⟨q0, q1, qP, va_K.moved (u := U) (U := U.calling g mk a) (Vm.Alike.refl U.vm) qK, qD⟩
theorem ucVi {r : Int32} (S : CallFix p m c cc nL s args Ts own) (hK : va_K D cl tys s) (hP : va_P D cl w H) (hD : va_D A0 w) (hS : va_S A0 s.heap H locs) (hA : ∀ q, s.heap.size ≤ q → A0 q)
    (hM : ∀ hs, Met l y ws rm (PcU D cl tys w hs (.ref b :: As)) (QUi D cl tys w w' hs r) 0 0 (va_A w hs)) (cw : CallW R s args own C index y bytes maxL ret ws rm 0 0 n)
    (q0 ci : Nat) {q : vw_C} {fs : List Value} (hc : cl[ci]? = some q) (hq : q.1 = C) (he : w[q0]? = some (b, .inr (ci, fs))) (hst : st0 = As.reverse ++ .ref b :: rest) (hn : As.length = n) (hsz : ls.size = nL) (hW : (rest.map fun v => v.category).sum ≤ 8) (hdg : decode cc pc = .ok (.invokevirtual index, 3)) (hrm : cells ≤ R.cells ∧ slots ≤ R.slots)
    (kk : ∀ (H1 : Heap) (locs1 : List Loc), va_P D cl w' H1 → va_D A0 w' → va_S A0 s.heap H1 locs1 → W p l e R s m args below meth c H1 locs1 cells slots Q (F0 m (pc + 3) ls (.int r :: rest))) :
    W p l e R s m args below meth c H locs cells slots Q (F0 m pc ls st0) := by
  subst hst
  have hFc : ∀ q, va_A w H.size q → A0 q := fun q h => by
    rcases h with ⟨k, e, hk⟩ | h
    · exact hD.2 k _ hk
    · exact hA q (Nat.le_trans hS.1 h)
  refine va_calli (va_runV (As := As) (rest := rest) S (hM H.size) cw ⟨pcU_blind, hq ▸ va_recv hK hP hc he, fun U hU hW => ⟨rfl, by rw [hU], by rw [hU]; exact hP, va_K.moved hW.alike hK, hD.weaken (fun _ _ _ _ => trivial)⟩⟩ rfl hn hsz rfl (lv_room hW) hdg hrm) hS (fun q _ h => hFc q h) hFc (fun r1 u t H1 locs1 ht hvm hw hB hz1 hk1 hS1 => ?_)
  obtain ⟨hP1, hK1, hD1⟩ := hB
  rw [ht] at hP1
  rw [hw]
  exact kk H1 locs1 hP1 (hD1.weaken (fun _ _ _ h => hFc _ h)) hS1
theorem ucVl {r : Int64} (S : CallFix p m c cc nL s args Ts own) (hK : va_K D cl tys s) (hP : va_P D cl w H) (hD : va_D A0 w) (hS : va_S A0 s.heap H locs) (hA : ∀ q, s.heap.size ≤ q → A0 q)
    (hM : ∀ hs, Met l y ws rm (PcU D cl tys w hs (.ref b :: As)) (QUl D cl tys w w' hs r) 0 0 (va_A w hs)) (cw : CallW R s args own C index y bytes maxL ret ws rm 0 0 n)
    (q0 ci : Nat) {q : vw_C} {fs : List Value} (hc : cl[ci]? = some q) (hq : q.1 = C) (he : w[q0]? = some (b, .inr (ci, fs))) (hst : st0 = As.reverse ++ .ref b :: rest) (hn : As.length = n) (hsz : ls.size = nL) (hW : (rest.map fun v => v.category).sum ≤ 8) (hdg : decode cc pc = .ok (.invokevirtual index, 3)) (hrm : cells ≤ R.cells ∧ slots ≤ R.slots)
    (kk : ∀ (H1 : Heap) (locs1 : List Loc), va_P D cl w' H1 → va_D A0 w' → va_S A0 s.heap H1 locs1 → W p l e R s m args below meth c H1 locs1 cells slots Q (F0 m (pc + 3) ls (.long r :: rest))) :
    W p l e R s m args below meth c H locs cells slots Q (F0 m pc ls st0) := by
  subst hst
  have hFc : ∀ q, va_A w H.size q → A0 q := fun q h => by
    rcases h with ⟨k, e, hk⟩ | h
    · exact hD.2 k _ hk
    · exact hA q (Nat.le_trans hS.1 h)
  refine va_calll (va_runV (As := As) (rest := rest) S (hM H.size) cw ⟨pcU_blind, hq ▸ va_recv hK hP hc he, fun U hU hW => ⟨rfl, by rw [hU], by rw [hU]; exact hP, va_K.moved hW.alike hK, hD.weaken (fun _ _ _ _ => trivial)⟩⟩ rfl hn hsz rfl (lv_room hW) hdg hrm) hS (fun q _ h => hFc q h) hFc (fun r1 u t H1 locs1 ht hvm hw hB hz1 hk1 hS1 => ?_)
  obtain ⟨hP1, hK1, hD1⟩ := hB
  rw [ht] at hP1
  rw [hw]
  exact kk H1 locs1 hP1 (hD1.weaken (fun _ _ _ h => hFc _ h)) hS1
theorem ucVv (S : CallFix p m c cc nL s args Ts own) (hK : va_K D cl tys s) (hP : va_P D cl w H) (hD : va_D A0 w) (hS : va_S A0 s.heap H locs) (hA : ∀ q, s.heap.size ≤ q → A0 q)
    (hM : ∀ hs, Met l y ws rm (PcU D cl tys w hs (.ref b :: As)) (QUv D cl tys w w' hs) 0 0 (va_A w hs)) (cw : CallW R s args own C index y bytes maxL ret ws rm 0 0 n)
    (q0 ci : Nat) {q : vw_C} {fs : List Value} (hc : cl[ci]? = some q) (hq : q.1 = C) (he : w[q0]? = some (b, .inr (ci, fs))) (hst : st0 = As.reverse ++ .ref b :: rest) (hn : As.length = n) (hsz : ls.size = nL) (hW : (rest.map fun v => v.category).sum ≤ 8) (hdg : decode cc pc = .ok (.invokevirtual index, 3)) (hrm : cells ≤ R.cells ∧ slots ≤ R.slots)
    (kk : ∀ (H1 : Heap) (locs1 : List Loc), va_P D cl w' H1 → va_D A0 w' → va_S A0 s.heap H1 locs1 → W p l e R s m args below meth c H1 locs1 cells slots Q (F0 m (pc + 3) ls rest)) :
    W p l e R s m args below meth c H locs cells slots Q (F0 m pc ls st0) := by
  subst hst
  have hFc : ∀ q, va_A w H.size q → A0 q := fun q h => by
    rcases h with ⟨k, e, hk⟩ | h
    · exact hD.2 k _ hk
    · exact hA q (Nat.le_trans hS.1 h)
  refine va_callv (va_runV (As := As) (rest := rest) S (hM H.size) cw ⟨pcU_blind, hq ▸ va_recv hK hP hc he, fun U hU hW => ⟨rfl, by rw [hU], by rw [hU]; exact hP, va_K.moved hW.alike hK, hD.weaken (fun _ _ _ _ => trivial)⟩⟩ rfl hn hsz rfl (lv_room hW) hdg hrm) hS (fun q _ h => hFc q h) hFc (fun u t H1 locs1 ht hvm hw hB hz1 hk1 hS1 => ?_)
  obtain ⟨hP1, hK1, hD1⟩ := hB
  rw [ht] at hP1
  exact kk H1 locs1 hP1 (hD1.weaken (fun _ _ _ h => hFc _ h)) hS1
theorem ucSv (S : CallFix p m c cc nL s args Ts own) (hK : va_K D cl tys s) (hP : va_P D cl w H) (hD : va_D A0 w) (hS : va_S A0 s.heap H locs) (hA : ∀ q, s.heap.size ≤ q → A0 q)
    (hM : ∀ hs, Met l y ws rm (PcU D cl tys w hs As) (QUv D cl tys w w' hs) 0 0 (va_A w hs)) (cw : CallB R s args own index y bytes maxL ret ws rm 0 0 n ∧ (Cond.static y).before args s = true)
    (hst : st0 = As.reverse ++ rest) (hn : As.length = n) (hsz : ls.size = nL) (hW : (rest.map fun v => v.category).sum ≤ 8) (hdg : decode cc pc = .ok (.invokestatic index, 3)) (hrm : cells ≤ R.cells ∧ slots ≤ R.slots)
    (kk : ∀ (H1 : Heap) (locs1 : List Loc), va_P D cl w' H1 → va_D A0 w' → va_S A0 s.heap H1 locs1 → W p l e R s m args below meth c H1 locs1 cells slots Q (F0 m (pc + 3) ls rest)) :
    W p l e R s m args below meth c H locs cells slots Q (F0 m pc ls st0) := by
  subst hst
  have hFc : ∀ q, va_A w H.size q → A0 q := fun q h => by
    rcases h with ⟨k, e, hk⟩ | h
    · exact hD.2 k _ hk
    · exact hA q (Nat.le_trans hS.1 h)
  refine va_callv (va_runS (As := As) (rest := rest) S (hM H.size) cw ⟨pcU_blind, fun U hU hW => ⟨rfl, by rw [hU], by rw [hU]; exact hP, va_K.moved hW.alike hK, hD.weaken (fun _ _ _ _ => trivial)⟩⟩ rfl hn hsz rfl (lv_room hW) hdg hrm) hS (fun q _ h => hFc q h) hFc (fun u t H1 locs1 ht hvm hw hB hz1 hk1 hS1 => ?_)
  obtain ⟨hP1, hK1, hD1⟩ := hB
  rw [ht] at hP1
  exact kk H1 locs1 hP1 (hD1.weaken (fun _ _ _ h => hFc _ h)) hS1
/-! lcmp and the branch behind it -/
variable {x y' : Int64} {off : Int} {tgt : Nat}
theorem lc_eq (hx : p.tables.exec = Jvm.exec) (hb : c.code = cc) (h1 : decode cc pc = .ok (.lcmp, 1)) (h2 : decode cc (pc + 1) = .ok (.ifCond .eq off, 3)) (ht : ((pc + 1 : Nat) : Int) + off = (tgt : Int)) (kt : x = y' → W p l e R s m args below meth c H locs cells slots Q (F0 m tgt ls rest)) (kf : ¬ x = y' → W p l e R s m args below meth c H locs cells slots Q (F0 m (pc + 1 + 3) ls rest)) : W p l e R s m args below meth c H locs cells slots Q (F0 m pc ls (.long y' :: .long x :: rest)) :=
  W.lcmp hx hb h1 (lv_if_eq hx hb h2 ht (fun h => kt ((lg_cmp_eq x y').mp h)) (fun h => kf (fun q => h ((lg_cmp_eq x y').mpr q))))
theorem lc_ne (hx : p.tables.exec = Jvm.exec) (hb : c.code = cc) (h1 : decode cc pc = .ok (.lcmp, 1)) (h2 : decode cc (pc + 1) = .ok (.ifCond .ne off, 3)) (ht : ((pc + 1 : Nat) : Int) + off = (tgt : Int)) (kt : ¬ x = y' → W p l e R s m args below meth c H locs cells slots Q (F0 m tgt ls rest)) (kf : x = y' → W p l e R s m args below meth c H locs cells slots Q (F0 m (pc + 1 + 3) ls rest)) : W p l e R s m args below meth c H locs cells slots Q (F0 m pc ls (.long y' :: .long x :: rest)) :=
  W.lcmp hx hb h1 (lv_if_ne hx hb h2 ht (fun h => kt (fun q => h ((lg_cmp_eq x y').mpr q))) (fun h => kf ((lg_cmp_eq x y').mp h)))
theorem lc_lt (hx : p.tables.exec = Jvm.exec) (hb : c.code = cc) (h1 : decode cc pc = .ok (.lcmp, 1)) (h2 : decode cc (pc + 1) = .ok (.ifCond .lt off, 3)) (ht : ((pc + 1 : Nat) : Int) + off = (tgt : Int)) (kt : x < y' → W p l e R s m args below meth c H locs cells slots Q (F0 m tgt ls rest)) (kf : ¬ x < y' → W p l e R s m args below meth c H locs cells slots Q (F0 m (pc + 1 + 3) ls rest)) : W p l e R s m args below meth c H locs cells slots Q (F0 m pc ls (.long y' :: .long x :: rest)) :=
  W.lcmp hx hb h1 (lv_if_lt hx hb h2 ht (fun h => kt ((lg_cmp_lt x y').mp h)) (fun h => kf (fun q => h ((lg_cmp_lt x y').mpr q))))
theorem lc_ge (hx : p.tables.exec = Jvm.exec) (hb : c.code = cc) (h1 : decode cc pc = .ok (.lcmp, 1)) (h2 : decode cc (pc + 1) = .ok (.ifCond .ge off, 3)) (ht : ((pc + 1 : Nat) : Int) + off = (tgt : Int)) (kt : y' ≤ x → W p l e R s m args below meth c H locs cells slots Q (F0 m tgt ls rest)) (kf : ¬ y' ≤ x → W p l e R s m args below meth c H locs cells slots Q (F0 m (pc + 1 + 3) ls rest)) : W p l e R s m args below meth c H locs cells slots Q (F0 m pc ls (.long y' :: .long x :: rest)) :=
  W.lcmp hx hb h1 (lv_if_ge hx hb h2 ht (fun h => kt ((lg_cmp_ge x y').mp h)) (fun h => kf (fun q => h ((lg_cmp_ge x y').mpr q))))
theorem lc_gt (hx : p.tables.exec = Jvm.exec) (hb : c.code = cc) (h1 : decode cc pc = .ok (.lcmp, 1)) (h2 : decode cc (pc + 1) = .ok (.ifCond .gt off, 3)) (ht : ((pc + 1 : Nat) : Int) + off = (tgt : Int)) (kt : y' < x → W p l e R s m args below meth c H locs cells slots Q (F0 m tgt ls rest)) (kf : ¬ y' < x → W p l e R s m args below meth c H locs cells slots Q (F0 m (pc + 1 + 3) ls rest)) : W p l e R s m args below meth c H locs cells slots Q (F0 m pc ls (.long y' :: .long x :: rest)) :=
  W.lcmp hx hb h1 (lv_if_gt hx hb h2 ht (fun h => kt ((lg_cmp_gt x y').mp h)) (fun h => kf (fun q => h ((lg_cmp_gt x y').mpr q))))
theorem lc_le (hx : p.tables.exec = Jvm.exec) (hb : c.code = cc) (h1 : decode cc pc = .ok (.lcmp, 1)) (h2 : decode cc (pc + 1) = .ok (.ifCond .le off, 3)) (ht : ((pc + 1 : Nat) : Int) + off = (tgt : Int)) (kt : x ≤ y' → W p l e R s m args below meth c H locs cells slots Q (F0 m tgt ls rest)) (kf : ¬ x ≤ y' → W p l e R s m args below meth c H locs cells slots Q (F0 m (pc + 1 + 3) ls rest)) : W p l e R s m args below meth c H locs cells slots Q (F0 m pc ls (.long y' :: .long x :: rest)) :=
  W.lcmp hx hb h1 (lv_if_le hx hb h2 ht (fun h => kt ((lg_cmp_le x y').mp h)) (fun h => kf (fun q => h ((lg_cmp_le x y').mpr q))))
theorem lv_eqi {x1 y1 : Int32} (h : x1 = y1) (k : W p l e R s m args below meth c H locs cells slots Q (F0 m pc ls (.int y1 :: rest))) : W p l e R s m args below meth c H locs cells slots Q (F0 m pc ls (.int x1 :: rest)) := h ▸ k
theorem lv_eql {x1 y1 : Int64} (h : x1 = y1) (k : W p l e R s m args below meth c H locs cells slots Q (F0 m pc ls (.long y1 :: rest))) : W p l e R s m args below meth c H locs cells slots Q (F0 m pc ls (.long x1 :: rest)) := h ▸ k
end UC
end
section
theorem tw_0 : Cond.selects R_V y_V_beginAgain y_V_beginAgain ∈ TB := inTB 0 (by decide +kernel) rfl
theorem tw_1 : Cond.selects R_S y_S_superblockStands y_S_superblockStands ∈ TB := inTB 1 (by decide +kernel) rfl
theorem tw_2 : Cond.selects R_S y_S_superblockHas y_S_superblockHas ∈ TB := inTB 2 (by decide +kernel) rfl
theorem tw_3 : Cond.selects R_S y_S_copiesStand y_S_copiesStand ∈ TB := inTB 3 (by decide +kernel) rfl
theorem tw_4 : Cond.selects R_S y_S_hasCopies y_S_hasCopies ∈ TB := inTB 4 (by decide +kernel) rfl
theorem tw_5 : Cond.selects R_S y_S_groupsStand y_S_groupsStand ∈ TB := inTB 5 (by decide +kernel) rfl
theorem tw_6 : Cond.selects R_S y_S_fix y_S_fix ∈ TB := inTB 6 (by decide +kernel) rfl
theorem tw_7 : Cond.selects R_S y_S_treeFault y_S_treeFault ∈ TB := inTB 7 (by decide +kernel) rfl
theorem tw_8 : Cond.selects R_S y_S_takeWhole y_S_takeWhole ∈ TB := inTB 8 (by decide +kernel) rfl
theorem tw_9 : Cond.selects R_S y_S_spareAreZero y_S_spareAreZero ∈ TB := inTB 9 (by decide +kernel) rfl
theorem tw_10 : Cond.selects R_S y_S_take y_S_take ∈ TB := inTB 10 (by decide +kernel) rfl
theorem tw_11 : Cond.selects R_S y_S_standInLine y_S_standInLine ∈ TB := inTB 11 (by decide +kernel) rfl
theorem tw_12 : Cond.selects R_S y_S_entriesStand y_S_entriesStand ∈ TB := inTB 12 (by decide +kernel) rfl
theorem tw_13 : Cond.selects R_S y_S_entryStands y_S_entryStands ∈ TB := inTB 13 (by decide +kernel) rfl
theorem tw_14 : Cond.selects R_S y_S_itemsComeUp y_S_itemsComeUp ∈ TB := inTB 14 (by decide +kernel) rfl
theorem tw_15 : Cond.selects R_S y_S_isKnown y_S_isKnown ∈ TB := inTB 15 (by decide +kernel) rfl
theorem tw_16 : Cond.selects R_S y_S_lateFault y_S_lateFault ∈ TB := inTB 16 (by decide +kernel) rfl
theorem tw_17 : Cond.selects R_S y_S_linksStand y_S_linksStand ∈ TB := inTB 17 (by decide +kernel) rfl
theorem tw_18 : Cond.selects R_S y_S_inodesStand y_S_inodesStand ∈ TB := inTB 18 (by decide +kernel) rfl
theorem tw_19 : Cond.selects R_S y_S_isBlank y_S_isBlank ∈ TB := inTB 19 (by decide +kernel) rfl
theorem tw_20 : Cond.selects R_S y_S_mapsStand y_S_mapsStand ∈ TB := inTB 20 (by decide +kernel) rfl
theorem tw_21 : Cond.selects R_S y_S_blockMapStands y_S_blockMapStands ∈ TB := inTB 21 (by decide +kernel) rfl
theorem tw_22 : Cond.selects R_S y_S_isTaken y_S_isTaken ∈ TB := inTB 22 (by decide +kernel) rfl
theorem tw_23 : Cond.selects R_S y_S_freeBlocks y_S_freeBlocks ∈ TB := inTB 23 (by decide +kernel) rfl
theorem tw_24 : Cond.selects R_S y_S_freeInodes y_S_freeInodes ∈ TB := inTB 24 (by decide +kernel) rfl
theorem tw_25 : Cond.selects R_S y_S_directories y_S_directories ∈ TB := inTB 25 (by decide +kernel) rfl
theorem tw_27 : Cond.selects R_V y_V_countItems y_V_countItems ∈ TB := inTB 27 (by decide +kernel) rfl
theorem tw_28 : Cond.selects R_V y_V_seekItem y_V_seekItem ∈ TB := inTB 28 (by decide +kernel) rfl
theorem tw_29 : Cond.selects R_V y_V_lastBlock y_V_lastBlock ∈ TB := inTB 29 (by decide +kernel) rfl
theorem tw_68 : Cond.initialized R_V ∈ TB := inTB 68 (by decide +kernel) rfl
theorem tw_69 : Cond.initialized R_D ∈ TB := inTB 69 (by decide +kernel) rfl
theorem tw_70 : Cond.initialized "java/lang/Math" ∈ TB := inTB 70 (by decide +kernel) rfl
theorem tw_71 : Cond.initialized R_L ∈ TB := inTB 71 (by decide +kernel) rfl
theorem tw_72 : Cond.initialized R_E ∈ TB := inTB 72 (by decide +kernel) rfl
theorem tw_73 : Cond.initialized R_S ∈ TB := inTB 73 (by decide +kernel) rfl
theorem tw_79 : Cond.initialized "java/lang/IllegalStateException" ∈ TB := inTB 79 (by decide +kernel) rfl
theorem tw_80 : Cond.initialized "java/lang/IndexOutOfBoundsException" ∈ TB := inTB 80 (by decide +kernel) rfl
theorem tw_81 : Cond.initialized "java/lang/IllegalArgumentException" ∈ TB := inTB 81 (by decide +kernel) rfl
theorem tw_97 : Cond.static ⟨"java/lang/Math", "min", "(II)I"⟩ ∈ TB := inTB 97 (by decide +kernel) rfl
set_option maxRecDepth 100000 in
theorem tw_98 : Cond.code ⟨"java/lang/Math", "min", "(II)I"⟩ prog_12_method_69_code 2 (some .int) ∈ TB := inTB 98 rfl rfl
theorem tw_100 : Cond.static ⟨"java/lang/Math", "max", "(II)I"⟩ ∈ TB := inTB 100 (by decide +kernel) rfl
set_option maxRecDepth 100000 in
theorem tw_101 : Cond.code ⟨"java/lang/Math", "max", "(II)I"⟩ prog_12_method_65_code 2 (some .int) ∈ TB := inTB 101 rfl rfl
theorem tw_102 : Cond.fieldLink R_D 18 R_D "blocks" "I" ∈ TB := inTB 102 (by decide +kernel) rfl
theorem tw_103 : Cond.fieldLink R_D 24 R_D "size" "I" ∈ TB := inTB 103 (by decide +kernel) rfl
theorem tw_104 : Cond.fieldLink R_D 27 R_D "words" "[J" ∈ TB := inTB 104 (by decide +kernel) rfl
theorem tw_119 : Cond.fieldLink R_L 15 R_L "disk" "LInodeVolumes$Disk;" ∈ TB := inTB 119 (by decide +kernel) rfl
theorem tw_120 : Cond.fieldLink R_L 9 R_L "mapBlock" "[I" ∈ TB := inTB 120 (by decide +kernel) rfl
theorem tw_121 : Cond.fieldLink R_L 39 R_L "groupBlocks" "I" ∈ TB := inTB 121 (by decide +kernel) rfl
theorem tw_122 : Cond.fieldLink R_L 43 R_L "groupInodes" "I" ∈ TB := inTB 122 (by decide +kernel) rfl
theorem tw_123 : Cond.fieldLink R_L 50 R_L "groups" "I" ∈ TB := inTB 123 (by decide +kernel) rfl
theorem tw_124 : Cond.fieldLink R_L 53 R_L "inodes" "I" ∈ TB := inTB 124 (by decide +kernel) rfl
theorem tw_145 : Cond.fieldLink R_E 9 R_E "disk" "LInodeVolumes$Disk;" ∈ TB := inTB 145 (by decide +kernel) rfl
theorem tw_146 : Cond.fieldLink R_E 15 R_E "layout" "LInodeVolumes$Layout;" ∈ TB := inTB 146 (by decide +kernel) rfl
theorem tw_147 : Cond.fieldLink R_E 19 R_E "directory" "I" ∈ TB := inTB 147 (by decide +kernel) rfl
theorem tw_148 : Cond.fieldLink R_E 29 R_E "size" "J" ∈ TB := inTB 148 (by decide +kernel) rfl
theorem tw_149 : Cond.fieldLink R_E 33 R_E "offset" "J" ∈ TB := inTB 149 (by decide +kernel) rfl
theorem tw_150 : Cond.fieldLink R_E 36 R_E "order" "I" ∈ TB := inTB 150 (by decide +kernel) rfl
theorem tw_151 : Cond.fieldLink R_E 45 R_E "place" "J" ∈ TB := inTB 151 (by decide +kernel) rfl
theorem tw_152 : Cond.fieldLink R_E 54 R_E "head" "J" ∈ TB := inTB 152 (by decide +kernel) rfl
theorem tw_176 : Cond.fieldLink R_S 9 R_S "disk" "LInodeVolumes$Disk;" ∈ TB := inTB 176 (by decide +kernel) rfl
theorem tw_177 : Cond.fieldLink R_S 15 R_S "layout" "LInodeVolumes$Layout;" ∈ TB := inTB 177 (by decide +kernel) rfl
theorem tw_178 : Cond.fieldLink R_S 19 R_S "entries" "LInodeVolumes$Entries;" ∈ TB := inTB 178 (by decide +kernel) rfl
theorem tw_179 : Cond.fieldLink R_S 23 R_S "taken" "[I" ∈ TB := inTB 179 (by decide +kernel) rfl
theorem tw_180 : Cond.fieldLink R_S 27 R_S "known" "[I" ∈ TB := inTB 180 (by decide +kernel) rfl
theorem tw_181 : Cond.fieldLink R_S 30 R_S "line" "[I" ∈ TB := inTB 181 (by decide +kernel) rfl
theorem tw_182 : Cond.fieldLink R_S 33 R_S "parents" "[I" ∈ TB := inTB 182 (by decide +kernel) rfl
theorem tw_183 : Cond.fieldLink R_S 36 R_S "inside" "[I" ∈ TB := inTB 183 (by decide +kernel) rfl
theorem tw_184 : Cond.fieldLink R_S 134 R_S "came" "I" ∈ TB := inTB 184 (by decide +kernel) rfl
theorem tw_185 : Cond.fieldLink R_S 39 R_S "found" "I" ∈ TB := inTB 185 (by decide +kernel) rfl
theorem tw_207 : Cond.fieldLink R_V 14 R_V "disk" "LInodeVolumes$Disk;" ∈ TB := inTB 207 (by decide +kernel) rfl
theorem tw_208 : Cond.fieldLink R_V 23 R_V "layout" "LInodeVolumes$Layout;" ∈ TB := inTB 208 (by decide +kernel) rfl
theorem tw_209 : Cond.fieldLink R_V 32 R_V "entries" "LInodeVolumes$Entries;" ∈ TB := inTB 209 (by decide +kernel) rfl
theorem tw_210 : Cond.fieldLink R_V 41 R_V "survey" "LInodeVolumes$Survey;" ∈ TB := inTB 210 (by decide +kernel) rfl
theorem tw_211 : Cond.fieldLink R_V 45 R_V "here" "I" ∈ TB := inTB 211 (by decide +kernel) rfl
theorem tw_227 : Cond.methodLink R_V 49 y_D_holds ∈ TB := inTB 227 (by decide +kernel) rfl
theorem tw_228 : Cond.instanceMethod y_D_holds ∈ TB := inTB 228 (by decide +kernel) rfl
theorem tw_229 : Cond.selects R_D y_D_holds y_D_holds ∈ TB := inTB 229 (by decide +kernel) rfl
set_option maxRecDepth 100000 in
theorem tw_230 : Cond.code y_D_holds prog_2_method_3_code 4 (some .boolean) ∈ TB := inTB 230 rfl rfl
theorem tw_231 : Cond.methodLink R_V 53 y_D_set ∈ TB := inTB 231 (by decide +kernel) rfl
theorem tw_232 : Cond.instanceMethod y_D_set ∈ TB := inTB 232 (by decide +kernel) rfl
theorem tw_233 : Cond.selects R_D y_D_set y_D_set ∈ TB := inTB 233 (by decide +kernel) rfl
set_option maxRecDepth 100000 in
theorem tw_234 : Cond.code y_D_set prog_2_method_5_code 12 none ∈ TB := inTB 234 rfl rfl
theorem tw_235 : Cond.constantLong R_D 31 (7 : Int64) ∈ TB := inTB 235 (by decide +kernel) rfl
theorem tw_236 : Cond.constantLong R_D 33 (-1 : Int64) ∈ TB := inTB 236 (by decide +kernel) rfl
theorem tw_237 : Cond.methodLink R_V 57 y_V_beginAgain ∈ TB := inTB 237 (by decide +kernel) rfl
theorem tw_239 : Cond.instanceMethod y_V_beginAgain ∈ TB := inTB 239 (by decide +kernel) rfl
set_option maxRecDepth 100000 in
theorem tw_240 : Cond.code y_V_beginAgain prog_1_method_13_code 1 none ∈ TB := inTB 240 rfl rfl
theorem tw_241 : Cond.methodLink R_V 136 y_S_forget ∈ TB := inTB 241 (by decide +kernel) rfl
theorem tw_242 : Cond.instanceMethod y_S_forget ∈ TB := inTB 242 (by decide +kernel) rfl
theorem tw_243 : Cond.selects R_S y_S_forget y_S_forget ∈ TB := inTB 243 (by decide +kernel) rfl
set_option maxRecDepth 100000 in
theorem tw_244 : Cond.code y_S_forget prog_5_method_2_code 1 none ∈ TB := inTB 244 rfl rfl
theorem tw_249 : Cond.methodLink R_V 60 y_D_spread ∈ TB := inTB 249 (by decide +kernel) rfl
theorem tw_250 : Cond.instanceMethod y_D_spread ∈ TB := inTB 250 (by decide +kernel) rfl
theorem tw_251 : Cond.selects R_D y_D_spread y_D_spread ∈ TB := inTB 251 (by decide +kernel) rfl
set_option maxRecDepth 100000 in
theorem tw_252 : Cond.code y_D_spread prog_2_method_6_code 7 none ∈ TB := inTB 252 rfl rfl
theorem tw_253 : Cond.constantLong R_D 35 (72340172838076673 : Int64) ∈ TB := inTB 253 (by decide +kernel) rfl
theorem tw_254 : Cond.methodLink R_D 37 y_D_set ∈ TB := inTB 254 (by decide +kernel) rfl
theorem tw_259 : Cond.methodLink R_V 64 y_D_move ∈ TB := inTB 259 (by decide +kernel) rfl
theorem tw_260 : Cond.instanceMethod y_D_move ∈ TB := inTB 260 (by decide +kernel) rfl
theorem tw_261 : Cond.selects R_D y_D_move y_D_move ∈ TB := inTB 261 (by decide +kernel) rfl
set_option maxRecDepth 100000 in
theorem tw_262 : Cond.code y_D_move prog_2_method_7_code 5 none ∈ TB := inTB 262 rfl rfl
theorem tw_263 : Cond.methodLink R_D 41 y_D_number ∈ TB := inTB 263 (by decide +kernel) rfl
theorem tw_264 : Cond.instanceMethod y_D_number ∈ TB := inTB 264 (by decide +kernel) rfl
theorem tw_265 : Cond.selects R_D y_D_number y_D_number ∈ TB := inTB 265 (by decide +kernel) rfl
set_option maxRecDepth 100000 in
theorem tw_266 : Cond.code y_D_number prog_2_method_4_code 8 (some .long) ∈ TB := inTB 266 rfl rfl
theorem tw_271 : Cond.methodLink R_V 67 y_D_number ∈ TB := inTB 271 (by decide +kernel) rfl
theorem tw_276 : Cond.methodLink R_V 71 y_S_firstFault ∈ TB := inTB 276 (by decide +kernel) rfl
theorem tw_277 : Cond.instanceMethod y_S_firstFault ∈ TB := inTB 277 (by decide +kernel) rfl
theorem tw_278 : Cond.selects R_S y_S_firstFault y_S_firstFault ∈ TB := inTB 278 (by decide +kernel) rfl
set_option maxRecDepth 100000 in
theorem tw_279 : Cond.code y_S_firstFault prog_5_method_3_code 1 (some .int) ∈ TB := inTB 279 rfl rfl
theorem tw_280 : Cond.methodLink R_S 43 y_S_superblockStands ∈ TB := inTB 280 (by decide +kernel) rfl
theorem tw_282 : Cond.instanceMethod y_S_superblockStands ∈ TB := inTB 282 (by decide +kernel) rfl
set_option maxRecDepth 100000 in
theorem tw_283 : Cond.code y_S_superblockStands prog_5_method_4_code 1 (some .boolean) ∈ TB := inTB 283 rfl rfl
theorem tw_284 : Cond.methodLink R_S 60 y_L_readGroups ∈ TB := inTB 284 (by decide +kernel) rfl
theorem tw_285 : Cond.instanceMethod y_L_readGroups ∈ TB := inTB 285 (by decide +kernel) rfl
theorem tw_286 : Cond.selects R_L y_L_readGroups y_L_readGroups ∈ TB := inTB 286 (by decide +kernel) rfl
set_option maxRecDepth 100000 in
theorem tw_287 : Cond.code y_L_readGroups prog_4_method_2_code 5 (some .boolean) ∈ TB := inTB 287 rfl rfl
theorem tw_288 : Cond.constantLong R_L 19 (1056 : Int64) ∈ TB := inTB 288 (by decide +kernel) rfl
theorem tw_289 : Cond.methodLink R_L 21 y_D_number ∈ TB := inTB 289 (by decide +kernel) rfl
theorem tw_290 : Cond.constantLong R_L 27 (1064 : Int64) ∈ TB := inTB 290 (by decide +kernel) rfl
theorem tw_291 : Cond.constantLong R_L 29 (64 : Int64) ∈ TB := inTB 291 (by decide +kernel) rfl
theorem tw_292 : Cond.constantLong R_L 31 (128 : Int64) ∈ TB := inTB 292 (by decide +kernel) rfl
theorem tw_293 : Cond.constantLong R_L 33 (256 : Int64) ∈ TB := inTB 293 (by decide +kernel) rfl
theorem tw_294 : Cond.constantLong R_L 35 (8 : Int64) ∈ TB := inTB 294 (by decide +kernel) rfl
theorem tw_295 : Cond.constantLong R_L 37 (8192 : Int64) ∈ TB := inTB 295 (by decide +kernel) rfl
theorem tw_296 : Cond.methodLink R_L 46 y_D_blocks ∈ TB := inTB 296 (by decide +kernel) rfl
theorem tw_297 : Cond.instanceMethod y_D_blocks ∈ TB := inTB 297 (by decide +kernel) rfl
theorem tw_298 : Cond.selects R_D y_D_blocks y_D_blocks ∈ TB := inTB 298 (by decide +kernel) rfl
set_option maxRecDepth 100000 in
theorem tw_299 : Cond.code y_D_blocks prog_2_method_2_code 1 (some .int) ∈ TB := inTB 299 rfl rfl
theorem tw_300 : Cond.methodLink R_S 65 y_L_inodes ∈ TB := inTB 300 (by decide +kernel) rfl
theorem tw_301 : Cond.instanceMethod y_L_inodes ∈ TB := inTB 301 (by decide +kernel) rfl
theorem tw_302 : Cond.selects R_L y_L_inodes y_L_inodes ∈ TB := inTB 302 (by decide +kernel) rfl
set_option maxRecDepth 100000 in
theorem tw_303 : Cond.code y_L_inodes prog_4_method_7_code 1 (some .int) ∈ TB := inTB 303 rfl rfl
theorem tw_304 : Cond.methodLink R_S 68 y_S_superblockHas ∈ TB := inTB 304 (by decide +kernel) rfl
theorem tw_306 : Cond.instanceMethod y_S_superblockHas ∈ TB := inTB 306 (by decide +kernel) rfl
set_option maxRecDepth 100000 in
theorem tw_307 : Cond.code y_S_superblockHas prog_5_method_5_code 5 (some .boolean) ∈ TB := inTB 307 rfl rfl
theorem tw_308 : Cond.methodLink R_S 88 y_D_number ∈ TB := inTB 308 (by decide +kernel) rfl
theorem tw_309 : Cond.methodLink R_S 72 y_D_blocks ∈ TB := inTB 309 (by decide +kernel) rfl
theorem tw_310 : Cond.methodLink R_S 77 y_L_groupBlocks ∈ TB := inTB 310 (by decide +kernel) rfl
theorem tw_311 : Cond.instanceMethod y_L_groupBlocks ∈ TB := inTB 311 (by decide +kernel) rfl
theorem tw_312 : Cond.selects R_L y_L_groupBlocks y_L_groupBlocks ∈ TB := inTB 312 (by decide +kernel) rfl
set_option maxRecDepth 100000 in
theorem tw_313 : Cond.code y_L_groupBlocks prog_4_method_5_code 1 (some .int) ∈ TB := inTB 313 rfl rfl
theorem tw_314 : Cond.constantLong R_S 80 (61267 : Int64) ∈ TB := inTB 314 (by decide +kernel) rfl
theorem tw_315 : Cond.constantLong R_S 82 (11 : Int64) ∈ TB := inTB 315 (by decide +kernel) rfl
theorem tw_316 : Cond.constantLong R_S 84 (128 : Int64) ∈ TB := inTB 316 (by decide +kernel) rfl
theorem tw_317 : Cond.constantLong R_S 86 (2 : Int64) ∈ TB := inTB 317 (by decide +kernel) rfl
theorem tw_318 : Cond.methodLink R_S 47 y_S_copiesStand ∈ TB := inTB 318 (by decide +kernel) rfl
theorem tw_320 : Cond.instanceMethod y_S_copiesStand ∈ TB := inTB 320 (by decide +kernel) rfl
set_option maxRecDepth 100000 in
theorem tw_321 : Cond.code y_S_copiesStand prog_5_method_6_code 2 (some .boolean) ∈ TB := inTB 321 rfl rfl
theorem tw_322 : Cond.methodLink R_S 92 y_L_groups ∈ TB := inTB 322 (by decide +kernel) rfl
theorem tw_323 : Cond.instanceMethod y_L_groups ∈ TB := inTB 323 (by decide +kernel) rfl
theorem tw_324 : Cond.selects R_L y_L_groups y_L_groups ∈ TB := inTB 324 (by decide +kernel) rfl
set_option maxRecDepth 100000 in
theorem tw_325 : Cond.code y_L_groups prog_4_method_4_code 1 (some .int) ∈ TB := inTB 325 rfl rfl
theorem tw_326 : Cond.methodLink R_S 95 y_L_blocksOf ∈ TB := inTB 326 (by decide +kernel) rfl
theorem tw_327 : Cond.instanceMethod y_L_blocksOf ∈ TB := inTB 327 (by decide +kernel) rfl
theorem tw_328 : Cond.selects R_L y_L_blocksOf y_L_blocksOf ∈ TB := inTB 328 (by decide +kernel) rfl
set_option maxRecDepth 100000 in
theorem tw_329 : Cond.code y_L_blocksOf prog_4_method_9_code 2 (some .int) ∈ TB := inTB 329 rfl rfl
theorem tw_330 : Cond.methodLink R_L 56 y_L_firstBlock ∈ TB := inTB 330 (by decide +kernel) rfl
theorem tw_331 : Cond.instanceMethod y_L_firstBlock ∈ TB := inTB 331 (by decide +kernel) rfl
theorem tw_332 : Cond.selects R_L y_L_firstBlock y_L_firstBlock ∈ TB := inTB 332 (by decide +kernel) rfl
set_option maxRecDepth 100000 in
theorem tw_333 : Cond.code y_L_firstBlock prog_4_method_8_code 2 (some .int) ∈ TB := inTB 333 rfl rfl
theorem tw_334 : Cond.methodLink R_L 60 ⟨"java/lang/Math", "min", "(II)I"⟩ ∈ TB := inTB 334 (by decide +kernel) rfl
theorem tw_335 : Cond.methodLink R_S 99 y_S_hasCopies ∈ TB := inTB 335 (by decide +kernel) rfl
theorem tw_337 : Cond.instanceMethod y_S_hasCopies ∈ TB := inTB 337 (by decide +kernel) rfl
set_option maxRecDepth 100000 in
theorem tw_338 : Cond.code y_S_hasCopies prog_5_method_7_code 7 (some .boolean) ∈ TB := inTB 338 rfl rfl
theorem tw_339 : Cond.constantLong R_S 103 (1024 : Int64) ∈ TB := inTB 339 (by decide +kernel) rfl
theorem tw_340 : Cond.methodLink R_S 105 y_L_firstBlock ∈ TB := inTB 340 (by decide +kernel) rfl
theorem tw_341 : Cond.methodLink R_S 50 y_S_groupsStand ∈ TB := inTB 341 (by decide +kernel) rfl
theorem tw_343 : Cond.instanceMethod y_S_groupsStand ∈ TB := inTB 343 (by decide +kernel) rfl
set_option maxRecDepth 100000 in
theorem tw_344 : Cond.code y_S_groupsStand prog_5_method_8_code 7 (some .boolean) ∈ TB := inTB 344 rfl rfl
theorem tw_348 : Cond.methodLink R_S 114 y_L_groupInodes ∈ TB := inTB 348 (by decide +kernel) rfl
theorem tw_349 : Cond.instanceMethod y_L_groupInodes ∈ TB := inTB 349 (by decide +kernel) rfl
theorem tw_350 : Cond.selects R_L y_L_groupInodes y_L_groupInodes ∈ TB := inTB 350 (by decide +kernel) rfl
set_option maxRecDepth 100000 in
theorem tw_351 : Cond.code y_L_groupInodes prog_4_method_6_code 1 (some .int) ∈ TB := inTB 351 rfl rfl
theorem tw_352 : Cond.methodLink R_S 117 y_L_described ∈ TB := inTB 352 (by decide +kernel) rfl
theorem tw_353 : Cond.instanceMethod y_L_described ∈ TB := inTB 353 (by decide +kernel) rfl
theorem tw_354 : Cond.selects R_L y_L_described y_L_described ∈ TB := inTB 354 (by decide +kernel) rfl
set_option maxRecDepth 100000 in
theorem tw_355 : Cond.code y_L_described prog_4_method_10_code 4 (some .long) ∈ TB := inTB 355 rfl rfl
theorem tw_356 : Cond.methodLink R_S 121 y_L_setMap ∈ TB := inTB 356 (by decide +kernel) rfl
theorem tw_357 : Cond.instanceMethod y_L_setMap ∈ TB := inTB 357 (by decide +kernel) rfl
theorem tw_358 : Cond.selects R_L y_L_setMap y_L_setMap ∈ TB := inTB 358 (by decide +kernel) rfl
set_option maxRecDepth 100000 in
theorem tw_359 : Cond.code y_L_setMap prog_4_method_3_code 3 none ∈ TB := inTB 359 rfl rfl
theorem tw_360 : Cond.methodLink R_S 125 y_S_fix ∈ TB := inTB 360 (by decide +kernel) rfl
theorem tw_362 : Cond.instanceMethod y_S_fix ∈ TB := inTB 362 (by decide +kernel) rfl
set_option maxRecDepth 100000 in
theorem tw_363 : Cond.code y_S_fix prog_5_method_9_code 4 none ∈ TB := inTB 363 rfl rfl
theorem tw_364 : Cond.methodLink R_S 128 ⟨"java/lang/Math", "max", "(II)I"⟩ ∈ TB := inTB 364 (by decide +kernel) rfl
theorem tw_365 : Cond.methodLink R_S 53 y_S_treeFault ∈ TB := inTB 365 (by decide +kernel) rfl
theorem tw_367 : Cond.instanceMethod y_S_treeFault ∈ TB := inTB 367 (by decide +kernel) rfl
set_option maxRecDepth 100000 in
theorem tw_368 : Cond.code y_S_treeFault prog_5_method_10_code 2 (some .int) ∈ TB := inTB 368 rfl rfl
theorem tw_369 : Cond.methodLink R_S 137 y_L_isUsed ∈ TB := inTB 369 (by decide +kernel) rfl
theorem tw_370 : Cond.instanceMethod y_L_isUsed ∈ TB := inTB 370 (by decide +kernel) rfl
theorem tw_371 : Cond.selects R_L y_L_isUsed y_L_isUsed ∈ TB := inTB 371 (by decide +kernel) rfl
set_option maxRecDepth 100000 in
theorem tw_372 : Cond.code y_L_isUsed prog_4_method_15_code 4 (some .boolean) ∈ TB := inTB 372 rfl rfl
theorem tw_373 : Cond.methodLink R_L 74 y_L_groupOf ∈ TB := inTB 373 (by decide +kernel) rfl
theorem tw_374 : Cond.instanceMethod y_L_groupOf ∈ TB := inTB 374 (by decide +kernel) rfl
theorem tw_375 : Cond.selects R_L y_L_groupOf y_L_groupOf ∈ TB := inTB 375 (by decide +kernel) rfl
set_option maxRecDepth 100000 in
theorem tw_376 : Cond.code y_L_groupOf prog_4_method_13_code 2 (some .int) ∈ TB := inTB 376 rfl rfl
theorem tw_377 : Cond.constantLong R_L 66 (1024 : Int64) ∈ TB := inTB 377 (by decide +kernel) rfl
theorem tw_378 : Cond.methodLink R_S 140 y_L_typeOf ∈ TB := inTB 378 (by decide +kernel) rfl
theorem tw_379 : Cond.instanceMethod y_L_typeOf ∈ TB := inTB 379 (by decide +kernel) rfl
theorem tw_380 : Cond.selects R_L y_L_typeOf y_L_typeOf ∈ TB := inTB 380 (by decide +kernel) rfl
set_option maxRecDepth 100000 in
theorem tw_381 : Cond.code y_L_typeOf prog_4_method_18_code 2 (some .int) ∈ TB := inTB 381 rfl rfl
theorem tw_382 : Cond.methodLink R_L 77 y_L_inodePlace ∈ TB := inTB 382 (by decide +kernel) rfl
theorem tw_383 : Cond.instanceMethod y_L_inodePlace ∈ TB := inTB 383 (by decide +kernel) rfl
theorem tw_384 : Cond.selects R_L y_L_inodePlace y_L_inodePlace ∈ TB := inTB 384 (by decide +kernel) rfl
set_option maxRecDepth 100000 in
theorem tw_385 : Cond.code y_L_inodePlace prog_4_method_16_code 3 (some .long) ∈ TB := inTB 385 rfl rfl
theorem tw_386 : Cond.constantLong R_L 68 (-1024 : Int64) ∈ TB := inTB 386 (by decide +kernel) rfl
theorem tw_387 : Cond.constant R_L 80 (61440 : Int32) ∈ TB := inTB 387 (by decide +kernel) rfl
theorem tw_388 : Cond.methodLink R_S 143 y_S_takeWhole ∈ TB := inTB 388 (by decide +kernel) rfl
theorem tw_390 : Cond.instanceMethod y_S_takeWhole ∈ TB := inTB 390 (by decide +kernel) rfl
set_option maxRecDepth 100000 in
theorem tw_391 : Cond.code y_S_takeWhole prog_5_method_13_code 10 (some .boolean) ∈ TB := inTB 391 rfl rfl
theorem tw_392 : Cond.methodLink R_S 156 y_L_sizeOf ∈ TB := inTB 392 (by decide +kernel) rfl
theorem tw_393 : Cond.instanceMethod y_L_sizeOf ∈ TB := inTB 393 (by decide +kernel) rfl
theorem tw_394 : Cond.selects R_L y_L_sizeOf y_L_sizeOf ∈ TB := inTB 394 (by decide +kernel) rfl
set_option maxRecDepth 100000 in
theorem tw_395 : Cond.code y_L_sizeOf prog_4_method_19_code 2 (some .long) ∈ TB := inTB 395 rfl rfl
theorem tw_396 : Cond.constantLong R_L 81 (4 : Int64) ∈ TB := inTB 396 (by decide +kernel) rfl
theorem tw_397 : Cond.methodLink R_S 160 y_L_blocksFor ∈ TB := inTB 397 (by decide +kernel) rfl
theorem tw_398 : Cond.instanceMethod y_L_blocksFor ∈ TB := inTB 398 (by decide +kernel) rfl
theorem tw_399 : Cond.selects R_L y_L_blocksFor y_L_blocksFor ∈ TB := inTB 399 (by decide +kernel) rfl
set_option maxRecDepth 100000 in
theorem tw_400 : Cond.code y_L_blocksFor prog_4_method_20_code 3 (some .int) ∈ TB := inTB 400 rfl rfl
theorem tw_401 : Cond.methodLink R_S 164 y_L_field ∈ TB := inTB 401 (by decide +kernel) rfl
theorem tw_402 : Cond.instanceMethod y_L_field ∈ TB := inTB 402 (by decide +kernel) rfl
theorem tw_403 : Cond.selects R_L y_L_field y_L_field ∈ TB := inTB 403 (by decide +kernel) rfl
set_option maxRecDepth 100000 in
theorem tw_404 : Cond.code y_L_field prog_4_method_17_code 4 (some .long) ∈ TB := inTB 404 rfl rfl
theorem tw_405 : Cond.methodLink R_S 167 y_S_spareAreZero ∈ TB := inTB 405 (by decide +kernel) rfl
theorem tw_407 : Cond.instanceMethod y_S_spareAreZero ∈ TB := inTB 407 (by decide +kernel) rfl
set_option maxRecDepth 100000 in
theorem tw_408 : Cond.code y_S_spareAreZero prog_5_method_14_code 6 (some .boolean) ∈ TB := inTB 408 rfl rfl
theorem tw_409 : Cond.methodLink R_S 178 y_L_inodePlace ∈ TB := inTB 409 (by decide +kernel) rfl
theorem tw_410 : Cond.constantLong R_S 181 (40 : Int64) ∈ TB := inTB 410 (by decide +kernel) rfl
theorem tw_411 : Cond.constantLong R_S 183 (88 : Int64) ∈ TB := inTB 411 (by decide +kernel) rfl
theorem tw_412 : Cond.constantLong R_S 185 (92 : Int64) ∈ TB := inTB 412 (by decide +kernel) rfl
theorem tw_413 : Cond.constantLong R_S 187 (96 : Int64) ∈ TB := inTB 413 (by decide +kernel) rfl
theorem tw_414 : Cond.methodLink R_S 170 y_S_take ∈ TB := inTB 414 (by decide +kernel) rfl
theorem tw_416 : Cond.instanceMethod y_S_take ∈ TB := inTB 416 (by decide +kernel) rfl
set_option maxRecDepth 100000 in
theorem tw_417 : Cond.code y_S_take prog_5_method_15_code 4 (some .boolean) ∈ TB := inTB 417 rfl rfl
theorem tw_418 : Cond.methodLink R_S 174 y_L_blockOf ∈ TB := inTB 418 (by decide +kernel) rfl
theorem tw_419 : Cond.instanceMethod y_L_blockOf ∈ TB := inTB 419 (by decide +kernel) rfl
theorem tw_420 : Cond.selects R_L y_L_blockOf y_L_blockOf ∈ TB := inTB 420 (by decide +kernel) rfl
set_option maxRecDepth 100000 in
theorem tw_421 : Cond.code y_L_blockOf prog_4_method_21_code 10 (some .long) ∈ TB := inTB 421 rfl rfl
theorem tw_422 : Cond.constantLong R_L 83 (40 : Int64) ∈ TB := inTB 422 (by decide +kernel) rfl
theorem tw_423 : Cond.constantLong R_L 85 (88 : Int64) ∈ TB := inTB 423 (by decide +kernel) rfl
theorem tw_424 : Cond.constantLong R_L 87 (92 : Int64) ∈ TB := inTB 424 (by decide +kernel) rfl
theorem tw_425 : Cond.methodLink R_S 146 y_S_standInLine ∈ TB := inTB 425 (by decide +kernel) rfl
theorem tw_427 : Cond.instanceMethod y_S_standInLine ∈ TB := inTB 427 (by decide +kernel) rfl
set_option maxRecDepth 100000 in
theorem tw_428 : Cond.code y_S_standInLine prog_5_method_11_code 3 none ∈ TB := inTB 428 rfl rfl
theorem tw_429 : Cond.methodLink R_S 149 y_S_entriesStand ∈ TB := inTB 429 (by decide +kernel) rfl
theorem tw_431 : Cond.instanceMethod y_S_entriesStand ∈ TB := inTB 431 (by decide +kernel) rfl
set_option maxRecDepth 100000 in
theorem tw_432 : Cond.code y_S_entriesStand prog_5_method_16_code 6 (some .boolean) ∈ TB := inTB 432 rfl rfl
theorem tw_433 : Cond.methodLink R_S 189 y_E_start ∈ TB := inTB 433 (by decide +kernel) rfl
theorem tw_434 : Cond.instanceMethod y_E_start ∈ TB := inTB 434 (by decide +kernel) rfl
theorem tw_435 : Cond.selects R_E y_E_start y_E_start ∈ TB := inTB 435 (by decide +kernel) rfl
set_option maxRecDepth 100000 in
theorem tw_436 : Cond.code y_E_start prog_3_method_2_code 2 none ∈ TB := inTB 436 rfl rfl
theorem tw_437 : Cond.methodLink R_E 23 y_L_sizeOf ∈ TB := inTB 437 (by decide +kernel) rfl
theorem tw_438 : Cond.constantLong R_E 39 (1024 : Int64) ∈ TB := inTB 438 (by decide +kernel) rfl
theorem tw_439 : Cond.methodLink R_E 41 y_L_blockOf ∈ TB := inTB 439 (by decide +kernel) rfl
theorem tw_440 : Cond.methodLink R_E 48 y_D_number ∈ TB := inTB 440 (by decide +kernel) rfl
theorem tw_441 : Cond.constant R_S 195 (43691 : Int32) ∈ TB := inTB 441 (by decide +kernel) rfl
theorem tw_442 : Cond.methodLink R_S 196 y_E_isOn ∈ TB := inTB 442 (by decide +kernel) rfl
theorem tw_443 : Cond.instanceMethod y_E_isOn ∈ TB := inTB 443 (by decide +kernel) rfl
theorem tw_444 : Cond.selects R_E y_E_isOn y_E_isOn ∈ TB := inTB 444 (by decide +kernel) rfl
set_option maxRecDepth 100000 in
theorem tw_445 : Cond.code y_E_isOn prog_3_method_3_code 1 (some .boolean) ∈ TB := inTB 445 rfl rfl
theorem tw_446 : Cond.methodLink R_S 199 y_E_fits ∈ TB := inTB 446 (by decide +kernel) rfl
theorem tw_447 : Cond.instanceMethod y_E_fits ∈ TB := inTB 447 (by decide +kernel) rfl
theorem tw_448 : Cond.selects R_E y_E_fits y_E_fits ∈ TB := inTB 448 (by decide +kernel) rfl
set_option maxRecDepth 100000 in
theorem tw_449 : Cond.code y_E_fits prog_3_method_14_code 2 (some .boolean) ∈ TB := inTB 449 rfl rfl
theorem tw_450 : Cond.methodLink R_E 57 y_E_length ∈ TB := inTB 450 (by decide +kernel) rfl
theorem tw_451 : Cond.instanceMethod y_E_length ∈ TB := inTB 451 (by decide +kernel) rfl
theorem tw_452 : Cond.selects R_E y_E_length y_E_length ∈ TB := inTB 452 (by decide +kernel) rfl
set_option maxRecDepth 100000 in
theorem tw_453 : Cond.code y_E_length prog_3_method_8_code 1 (some .int) ∈ TB := inTB 453 rfl rfl
theorem tw_454 : Cond.constant R_E 73 (65535 : Int32) ∈ TB := inTB 454 (by decide +kernel) rfl
theorem tw_455 : Cond.methodLink R_S 202 y_E_isEmpty ∈ TB := inTB 455 (by decide +kernel) rfl
theorem tw_456 : Cond.instanceMethod y_E_isEmpty ∈ TB := inTB 456 (by decide +kernel) rfl
theorem tw_457 : Cond.selects R_E y_E_isEmpty y_E_isEmpty ∈ TB := inTB 457 (by decide +kernel) rfl
set_option maxRecDepth 100000 in
theorem tw_458 : Cond.code y_E_isEmpty prog_3_method_12_code 1 (some .boolean) ∈ TB := inTB 458 rfl rfl
theorem tw_459 : Cond.constantLong R_E 67 (4294967295 : Int64) ∈ TB := inTB 459 (by decide +kernel) rfl
theorem tw_460 : Cond.methodLink R_S 205 y_S_entryStands ∈ TB := inTB 460 (by decide +kernel) rfl
theorem tw_462 : Cond.instanceMethod y_S_entryStands ∈ TB := inTB 462 (by decide +kernel) rfl
set_option maxRecDepth 100000 in
theorem tw_463 : Cond.code y_S_entryStands prog_5_method_17_code 5 (some .boolean) ∈ TB := inTB 463 rfl rfl
theorem tw_464 : Cond.methodLink R_S 214 y_E_hasInode ∈ TB := inTB 464 (by decide +kernel) rfl
theorem tw_465 : Cond.instanceMethod y_E_hasInode ∈ TB := inTB 465 (by decide +kernel) rfl
theorem tw_466 : Cond.selects R_E y_E_hasInode y_E_hasInode ∈ TB := inTB 466 (by decide +kernel) rfl
set_option maxRecDepth 100000 in
theorem tw_467 : Cond.code y_E_hasInode prog_3_method_7_code 1 (some .boolean) ∈ TB := inTB 467 rfl rfl
theorem tw_468 : Cond.methodLink R_E 69 y_L_isInode ∈ TB := inTB 468 (by decide +kernel) rfl
theorem tw_469 : Cond.instanceMethod y_L_isInode ∈ TB := inTB 469 (by decide +kernel) rfl
theorem tw_470 : Cond.selects R_L y_L_isInode y_L_isInode ∈ TB := inTB 470 (by decide +kernel) rfl
set_option maxRecDepth 100000 in
theorem tw_471 : Cond.code y_L_isInode prog_4_method_14_code 3 (some .boolean) ∈ TB := inTB 471 rfl rfl
theorem tw_472 : Cond.methodLink R_S 217 y_E_hasName ∈ TB := inTB 472 (by decide +kernel) rfl
theorem tw_473 : Cond.instanceMethod y_E_hasName ∈ TB := inTB 473 (by decide +kernel) rfl
theorem tw_474 : Cond.selects R_E y_E_hasName y_E_hasName ∈ TB := inTB 474 (by decide +kernel) rfl
set_option maxRecDepth 100000 in
theorem tw_475 : Cond.code y_E_hasName prog_3_method_15_code 5 (some .boolean) ∈ TB := inTB 475 rfl rfl
theorem tw_476 : Cond.methodLink R_E 76 y_E_nameLength ∈ TB := inTB 476 (by decide +kernel) rfl
theorem tw_477 : Cond.instanceMethod y_E_nameLength ∈ TB := inTB 477 (by decide +kernel) rfl
theorem tw_478 : Cond.selects R_E y_E_nameLength y_E_nameLength ∈ TB := inTB 478 (by decide +kernel) rfl
set_option maxRecDepth 100000 in
theorem tw_479 : Cond.code y_E_nameLength prog_3_method_9_code 1 (some .int) ∈ TB := inTB 479 rfl rfl
theorem tw_480 : Cond.constantLong R_E 74 (8 : Int64) ∈ TB := inTB 480 (by decide +kernel) rfl
theorem tw_481 : Cond.constantLong R_E 79 (47 : Int64) ∈ TB := inTB 481 (by decide +kernel) rfl
theorem tw_482 : Cond.methodLink R_S 220 y_E_inode ∈ TB := inTB 482 (by decide +kernel) rfl
theorem tw_483 : Cond.instanceMethod y_E_inode ∈ TB := inTB 483 (by decide +kernel) rfl
theorem tw_484 : Cond.selects R_E y_E_inode y_E_inode ∈ TB := inTB 484 (by decide +kernel) rfl
set_option maxRecDepth 100000 in
theorem tw_485 : Cond.code y_E_inode prog_3_method_6_code 1 (some .int) ∈ TB := inTB 485 rfl rfl
theorem tw_486 : Cond.methodLink R_S 211 y_E_order ∈ TB := inTB 486 (by decide +kernel) rfl
theorem tw_487 : Cond.instanceMethod y_E_order ∈ TB := inTB 487 (by decide +kernel) rfl
theorem tw_488 : Cond.selects R_E y_E_order y_E_order ∈ TB := inTB 488 (by decide +kernel) rfl
set_option maxRecDepth 100000 in
theorem tw_489 : Cond.code y_E_order prog_3_method_5_code 1 (some .int) ∈ TB := inTB 489 rfl rfl
theorem tw_490 : Cond.methodLink R_S 223 y_E_isOneDot ∈ TB := inTB 490 (by decide +kernel) rfl
theorem tw_491 : Cond.instanceMethod y_E_isOneDot ∈ TB := inTB 491 (by decide +kernel) rfl
theorem tw_492 : Cond.selects R_E y_E_isOneDot y_E_isOneDot ∈ TB := inTB 492 (by decide +kernel) rfl
set_option maxRecDepth 100000 in
theorem tw_493 : Cond.code y_E_isOneDot prog_3_method_16_code 1 (some .boolean) ∈ TB := inTB 493 rfl rfl
theorem tw_494 : Cond.constantLong R_E 81 (46 : Int64) ∈ TB := inTB 494 (by decide +kernel) rfl
theorem tw_495 : Cond.methodLink R_S 226 y_E_mark ∈ TB := inTB 495 (by decide +kernel) rfl
theorem tw_496 : Cond.instanceMethod y_E_mark ∈ TB := inTB 496 (by decide +kernel) rfl
theorem tw_497 : Cond.selects R_E y_E_mark y_E_mark ∈ TB := inTB 497 (by decide +kernel) rfl
set_option maxRecDepth 100000 in
theorem tw_498 : Cond.code y_E_mark prog_3_method_10_code 1 (some .int) ∈ TB := inTB 498 rfl rfl
theorem tw_499 : Cond.methodLink R_S 229 y_E_isTwoDots ∈ TB := inTB 499 (by decide +kernel) rfl
theorem tw_500 : Cond.instanceMethod y_E_isTwoDots ∈ TB := inTB 500 (by decide +kernel) rfl
theorem tw_501 : Cond.selects R_E y_E_isTwoDots y_E_isTwoDots ∈ TB := inTB 501 (by decide +kernel) rfl
set_option maxRecDepth 100000 in
theorem tw_502 : Cond.code y_E_isTwoDots prog_3_method_17_code 1 (some .boolean) ∈ TB := inTB 502 rfl rfl
theorem tw_503 : Cond.constantLong R_E 83 (11822 : Int64) ∈ TB := inTB 503 (by decide +kernel) rfl
theorem tw_504 : Cond.constant R_S 232 (32768 : Int32) ∈ TB := inTB 504 (by decide +kernel) rfl
theorem tw_505 : Cond.methodLink R_S 208 y_E_advance ∈ TB := inTB 505 (by decide +kernel) rfl
theorem tw_506 : Cond.instanceMethod y_E_advance ∈ TB := inTB 506 (by decide +kernel) rfl
theorem tw_507 : Cond.selects R_E y_E_advance y_E_advance ∈ TB := inTB 507 (by decide +kernel) rfl
set_option maxRecDepth 100000 in
theorem tw_508 : Cond.code y_E_advance prog_3_method_4_code 1 none ∈ TB := inTB 508 rfl rfl
theorem tw_509 : Cond.methodLink R_E 61 ⟨"java/lang/Math", "max", "(II)I"⟩ ∈ TB := inTB 509 (by decide +kernel) rfl
theorem tw_510 : Cond.methodLink R_S 153 y_S_itemsComeUp ∈ TB := inTB 510 (by decide +kernel) rfl
theorem tw_512 : Cond.instanceMethod y_S_itemsComeUp ∈ TB := inTB 512 (by decide +kernel) rfl
set_option maxRecDepth 100000 in
theorem tw_513 : Cond.code y_S_itemsComeUp prog_5_method_18_code 5 (some .boolean) ∈ TB := inTB 513 rfl rfl
theorem tw_514 : Cond.methodLink R_S 233 y_E_isItem ∈ TB := inTB 514 (by decide +kernel) rfl
theorem tw_515 : Cond.instanceMethod y_E_isItem ∈ TB := inTB 515 (by decide +kernel) rfl
theorem tw_516 : Cond.selects R_E y_E_isItem y_E_isItem ∈ TB := inTB 516 (by decide +kernel) rfl
set_option maxRecDepth 100000 in
theorem tw_517 : Cond.code y_E_isItem prog_3_method_13_code 1 (some .boolean) ∈ TB := inTB 517 rfl rfl
theorem tw_518 : Cond.methodLink R_S 236 y_S_isKnown ∈ TB := inTB 518 (by decide +kernel) rfl
theorem tw_520 : Cond.instanceMethod y_S_isKnown ∈ TB := inTB 520 (by decide +kernel) rfl
set_option maxRecDepth 100000 in
theorem tw_521 : Cond.code y_S_isKnown prog_5_method_12_code 2 (some .boolean) ∈ TB := inTB 521 rfl rfl
theorem tw_522 : Cond.methodLink R_S 57 y_S_lateFault ∈ TB := inTB 522 (by decide +kernel) rfl
theorem tw_524 : Cond.instanceMethod y_S_lateFault ∈ TB := inTB 524 (by decide +kernel) rfl
set_option maxRecDepth 100000 in
theorem tw_525 : Cond.code y_S_lateFault prog_5_method_19_code 1 (some .int) ∈ TB := inTB 525 rfl rfl
theorem tw_526 : Cond.methodLink R_S 239 y_S_linksStand ∈ TB := inTB 526 (by decide +kernel) rfl
theorem tw_528 : Cond.instanceMethod y_S_linksStand ∈ TB := inTB 528 (by decide +kernel) rfl
set_option maxRecDepth 100000 in
theorem tw_529 : Cond.code y_S_linksStand prog_5_method_20_code 3 (some .boolean) ∈ TB := inTB 529 rfl rfl
theorem tw_530 : Cond.methodLink R_S 242 y_S_inodesStand ∈ TB := inTB 530 (by decide +kernel) rfl
theorem tw_532 : Cond.instanceMethod y_S_inodesStand ∈ TB := inTB 532 (by decide +kernel) rfl
set_option maxRecDepth 100000 in
theorem tw_533 : Cond.code y_S_inodesStand prog_5_method_21_code 3 (some .boolean) ∈ TB := inTB 533 rfl rfl
theorem tw_534 : Cond.methodLink R_S 248 y_S_isBlank ∈ TB := inTB 534 (by decide +kernel) rfl
theorem tw_536 : Cond.instanceMethod y_S_isBlank ∈ TB := inTB 536 (by decide +kernel) rfl
set_option maxRecDepth 100000 in
theorem tw_537 : Cond.code y_S_isBlank prog_5_method_22_code 5 (some .boolean) ∈ TB := inTB 537 rfl rfl
theorem tw_538 : Cond.methodLink R_S 245 y_S_mapsStand ∈ TB := inTB 538 (by decide +kernel) rfl
theorem tw_540 : Cond.instanceMethod y_S_mapsStand ∈ TB := inTB 540 (by decide +kernel) rfl
set_option maxRecDepth 100000 in
theorem tw_541 : Cond.code y_S_mapsStand prog_5_method_23_code 6 (some .boolean) ∈ TB := inTB 541 rfl rfl
theorem tw_542 : Cond.methodLink R_S 251 y_S_blockMapStands ∈ TB := inTB 542 (by decide +kernel) rfl
theorem tw_544 : Cond.instanceMethod y_S_blockMapStands ∈ TB := inTB 544 (by decide +kernel) rfl
set_option maxRecDepth 100000 in
theorem tw_545 : Cond.code y_S_blockMapStands prog_5_method_25_code 4 (some .boolean) ∈ TB := inTB 545 rfl rfl
theorem tw_546 : Cond.methodLink R_S 270 y_L_blockMap ∈ TB := inTB 546 (by decide +kernel) rfl
theorem tw_547 : Cond.instanceMethod y_L_blockMap ∈ TB := inTB 547 (by decide +kernel) rfl
theorem tw_548 : Cond.selects R_L y_L_blockMap y_L_blockMap ∈ TB := inTB 548 (by decide +kernel) rfl
set_option maxRecDepth 100000 in
theorem tw_549 : Cond.code y_L_blockMap prog_4_method_11_code 2 (some .long) ∈ TB := inTB 549 rfl rfl
theorem tw_550 : Cond.methodLink R_S 273 y_D_bit ∈ TB := inTB 550 (by decide +kernel) rfl
theorem tw_551 : Cond.instanceMethod y_D_bit ∈ TB := inTB 551 (by decide +kernel) rfl
theorem tw_552 : Cond.selects R_D y_D_bit y_D_bit ∈ TB := inTB 552 (by decide +kernel) rfl
set_option maxRecDepth 100000 in
theorem tw_553 : Cond.code y_D_bit prog_2_method_8_code 4 (some .boolean) ∈ TB := inTB 553 rfl rfl
theorem tw_554 : Cond.methodLink R_S 276 y_S_isTaken ∈ TB := inTB 554 (by decide +kernel) rfl
theorem tw_556 : Cond.instanceMethod y_S_isTaken ∈ TB := inTB 556 (by decide +kernel) rfl
set_option maxRecDepth 100000 in
theorem tw_557 : Cond.code y_S_isTaken prog_5_method_24_code 2 (some .boolean) ∈ TB := inTB 557 rfl rfl
theorem tw_558 : Cond.methodLink R_S 257 y_D_onesFrom ∈ TB := inTB 558 (by decide +kernel) rfl
theorem tw_559 : Cond.instanceMethod y_D_onesFrom ∈ TB := inTB 559 (by decide +kernel) rfl
theorem tw_560 : Cond.selects R_D y_D_onesFrom y_D_onesFrom ∈ TB := inTB 560 (by decide +kernel) rfl
set_option maxRecDepth 100000 in
theorem tw_561 : Cond.code y_D_onesFrom prog_2_method_9_code 5 (some .boolean) ∈ TB := inTB 561 rfl rfl
theorem tw_562 : Cond.methodLink R_S 254 y_L_inodeMap ∈ TB := inTB 562 (by decide +kernel) rfl
theorem tw_563 : Cond.instanceMethod y_L_inodeMap ∈ TB := inTB 563 (by decide +kernel) rfl
theorem tw_564 : Cond.selects R_L y_L_inodeMap y_L_inodeMap ∈ TB := inTB 564 (by decide +kernel) rfl
set_option maxRecDepth 100000 in
theorem tw_565 : Cond.code y_L_inodeMap prog_4_method_12_code 2 (some .long) ∈ TB := inTB 565 rfl rfl
theorem tw_566 : Cond.methodLink R_L 70 y_L_blockMap ∈ TB := inTB 566 (by decide +kernel) rfl
theorem tw_567 : Cond.methodLink R_S 261 y_S_freeBlocks ∈ TB := inTB 567 (by decide +kernel) rfl
theorem tw_569 : Cond.instanceMethod y_S_freeBlocks ∈ TB := inTB 569 (by decide +kernel) rfl
set_option maxRecDepth 100000 in
theorem tw_570 : Cond.code y_S_freeBlocks prog_5_method_26_code 5 (some .int) ∈ TB := inTB 570 rfl rfl
theorem tw_571 : Cond.methodLink R_S 264 y_S_freeInodes ∈ TB := inTB 571 (by decide +kernel) rfl
theorem tw_573 : Cond.instanceMethod y_S_freeInodes ∈ TB := inTB 573 (by decide +kernel) rfl
set_option maxRecDepth 100000 in
theorem tw_574 : Cond.code y_S_freeInodes prog_5_method_27_code 4 (some .int) ∈ TB := inTB 574 rfl rfl
theorem tw_575 : Cond.methodLink R_S 267 y_S_directories ∈ TB := inTB 575 (by decide +kernel) rfl
theorem tw_577 : Cond.instanceMethod y_S_directories ∈ TB := inTB 577 (by decide +kernel) rfl
set_option maxRecDepth 100000 in
theorem tw_578 : Cond.code y_S_directories prog_5_method_28_code 4 (some .int) ∈ TB := inTB 578 rfl rfl
theorem tw_579 : Cond.methodLink R_S 279 y_L_groupOf ∈ TB := inTB 579 (by decide +kernel) rfl
theorem tw_591 : Cond.classLink R_V 75 "java/lang/IllegalStateException" ∈ TB := inTB 591 (by decide +kernel) rfl
theorem tw_659 : Cond.methodLink R_V 82 y_V_countItems ∈ TB := inTB 659 (by decide +kernel) rfl
theorem tw_661 : Cond.instanceMethod y_V_countItems ∈ TB := inTB 661 (by decide +kernel) rfl
set_option maxRecDepth 100000 in
theorem tw_662 : Cond.code y_V_countItems prog_1_method_14_code 3 (some .int) ∈ TB := inTB 662 rfl rfl
theorem tw_663 : Cond.methodLink R_V 130 y_E_start ∈ TB := inTB 663 (by decide +kernel) rfl
theorem tw_664 : Cond.constant R_V 139 (43691 : Int32) ∈ TB := inTB 664 (by decide +kernel) rfl
theorem tw_665 : Cond.methodLink R_V 140 y_E_isOn ∈ TB := inTB 665 (by decide +kernel) rfl
theorem tw_666 : Cond.methodLink R_V 144 y_E_isItem ∈ TB := inTB 666 (by decide +kernel) rfl
theorem tw_667 : Cond.methodLink R_V 133 y_E_advance ∈ TB := inTB 667 (by decide +kernel) rfl
theorem tw_676 : Cond.methodLink R_V 85 y_V_seekItem ∈ TB := inTB 676 (by decide +kernel) rfl
theorem tw_678 : Cond.instanceMethod y_V_seekItem ∈ TB := inTB 678 (by decide +kernel) rfl
set_option maxRecDepth 100000 in
theorem tw_679 : Cond.code y_V_seekItem prog_1_method_15_code 4 none ∈ TB := inTB 679 rfl rfl
theorem tw_680 : Cond.classLink R_V 88 "java/lang/IndexOutOfBoundsException" ∈ TB := inTB 680 (by decide +kernel) rfl
theorem tw_697 : Cond.methodLink R_V 93 y_E_nameLength ∈ TB := inTB 697 (by decide +kernel) rfl
theorem tw_698 : Cond.methodLink R_V 96 y_E_nameByte ∈ TB := inTB 698 (by decide +kernel) rfl
theorem tw_699 : Cond.instanceMethod y_E_nameByte ∈ TB := inTB 699 (by decide +kernel) rfl
theorem tw_700 : Cond.selects R_E y_E_nameByte y_E_nameByte ∈ TB := inTB 700 (by decide +kernel) rfl
set_option maxRecDepth 100000 in
theorem tw_701 : Cond.code y_E_nameByte prog_3_method_11_code 2 (some .int) ∈ TB := inTB 701 rfl rfl
theorem tw_710 : Cond.methodLink R_V 100 y_E_inode ∈ TB := inTB 710 (by decide +kernel) rfl
theorem tw_711 : Cond.methodLink R_V 103 y_L_typeOf ∈ TB := inTB 711 (by decide +kernel) rfl
theorem tw_712 : Cond.methodLink R_V 106 y_L_sizeOf ∈ TB := inTB 712 (by decide +kernel) rfl
theorem tw_713 : Cond.methodLink R_V 110 y_L_field ∈ TB := inTB 713 (by decide +kernel) rfl
theorem tw_714 : Cond.methodLink R_V 114 y_V_lastBlock ∈ TB := inTB 714 (by decide +kernel) rfl
theorem tw_716 : Cond.instanceMethod y_V_lastBlock ∈ TB := inTB 716 (by decide +kernel) rfl
set_option maxRecDepth 100000 in
theorem tw_717 : Cond.code y_V_lastBlock prog_1_method_16_code 3 (some .long) ∈ TB := inTB 717 rfl rfl
theorem tw_718 : Cond.methodLink R_V 149 y_L_blocksFor ∈ TB := inTB 718 (by decide +kernel) rfl
theorem tw_719 : Cond.methodLink R_V 124 y_L_blockOf ∈ TB := inTB 719 (by decide +kernel) rfl
theorem tw_720 : Cond.classLink R_V 117 "java/lang/IllegalArgumentException" ∈ TB := inTB 720 (by decide +kernel) rfl
theorem tw_743 : Cond.constantLong R_V 122 (1024 : Int64) ∈ TB := inTB 743 (by decide +kernel) rfl
end
