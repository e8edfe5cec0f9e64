section
/-- a private method of a class that the tables say can be made, by its rows of tables_1 -/
def lw_okq (q : MethodName × Nat) : Prop := (q.1.cls ≠ "java/lang/invoke/MethodHandle" ∧ q.1.cls ≠ "java/lang/invoke/VarHandle") ∧ Cond.instantiable q.1.cls q.2 ∈ tables_1 ∧ Cond.privateMethod q.1 ∈ tables_1 ∧ Cond.instanceMethod q.1 ∈ tables_1
theorem lw_p0 : lw_okq (⟨"InodeVolumes", "beginAgain", "()V"⟩, 5) := ⟨⟨by decide +kernel, by decide +kernel⟩, List.mem_of_getElem? (i := 16) (by decide +kernel), List.mem_of_getElem? (i := 171) (by decide +kernel), List.mem_of_getElem? (i := 172) (by decide +kernel)⟩
theorem lw_p1 : lw_okq (⟨"InodeVolumes$Survey", "superblockStands", "()Z"⟩, 10) := ⟨⟨by decide +kernel, by decide +kernel⟩, List.mem_of_getElem? (i := 104) (by decide +kernel), List.mem_of_getElem? (i := 214) (by decide +kernel), List.mem_of_getElem? (i := 215) (by decide +kernel)⟩
theorem lw_p2 : lw_okq (⟨"InodeVolumes$Survey", "superblockHas", "(IIJ)Z"⟩, 10) := ⟨⟨by decide +kernel, by decide +kernel⟩, List.mem_of_getElem? (i := 104) (by decide +kernel), List.mem_of_getElem? (i := 238) (by decide +kernel), List.mem_of_getElem? (i := 239) (by decide +kernel)⟩
theorem lw_p3 : lw_okq (⟨"InodeVolumes$Survey", "copiesStand", "()Z"⟩, 10) := ⟨⟨by decide +kernel, by decide +kernel⟩, List.mem_of_getElem? (i := 104) (by decide +kernel), List.mem_of_getElem? (i := 252) (by decide +kernel), List.mem_of_getElem? (i := 253) (by decide +kernel)⟩
theorem lw_p4 : lw_okq (⟨"InodeVolumes$Survey", "hasCopies", "(I)Z"⟩, 10) := ⟨⟨by decide +kernel, by decide +kernel⟩, List.mem_of_getElem? (i := 104) (by decide +kernel), List.mem_of_getElem? (i := 269) (by decide +kernel), List.mem_of_getElem? (i := 270) (by decide +kernel)⟩
theorem lw_p5 : lw_okq (⟨"InodeVolumes$Survey", "groupsStand", "()Z"⟩, 10) := ⟨⟨by decide +kernel, by decide +kernel⟩, List.mem_of_getElem? (i := 104) (by decide +kernel), List.mem_of_getElem? (i := 275) (by decide +kernel), List.mem_of_getElem? (i := 276) (by decide +kernel)⟩
theorem lw_p6 : lw_okq (⟨"InodeVolumes$Survey", "fix", "(II)V"⟩, 10) := ⟨⟨by decide +kernel, by decide +kernel⟩, List.mem_of_getElem? (i := 104) (by decide +kernel), List.mem_of_getElem? (i := 294) (by decide +kernel), List.mem_of_getElem? (i := 295) (by decide +kernel)⟩
theorem lw_p7 : lw_okq (⟨"InodeVolumes$Survey", "treeFault", "()I"⟩, 10) := ⟨⟨by decide +kernel, by decide +kernel⟩, List.mem_of_getElem? (i := 104) (by decide +kernel), List.mem_of_getElem? (i := 299) (by decide +kernel), List.mem_of_getElem? (i := 300) (by decide +kernel)⟩
theorem lw_p8 : lw_okq (⟨"InodeVolumes$Survey", "takeWhole", "(I)Z"⟩, 10) := ⟨⟨by decide +kernel, by decide +kernel⟩, List.mem_of_getElem? (i := 104) (by decide +kernel), List.mem_of_getElem? (i := 322) (by decide +kernel), List.mem_of_getElem? (i := 323) (by decide +kernel)⟩
theorem lw_p9 : lw_okq (⟨"InodeVolumes$Survey", "spareAreZero", "(II)Z"⟩, 10) := ⟨⟨by decide +kernel, by decide +kernel⟩, List.mem_of_getElem? (i := 104) (by decide +kernel), List.mem_of_getElem? (i := 339) (by decide +kernel), List.mem_of_getElem? (i := 340) (by decide +kernel)⟩
theorem lw_p10 : lw_okq (⟨"InodeVolumes$Survey", "take", "(J)Z"⟩, 10) := ⟨⟨by decide +kernel, by decide +kernel⟩, List.mem_of_getElem? (i := 104) (by decide +kernel), List.mem_of_getElem? (i := 348) (by decide +kernel), List.mem_of_getElem? (i := 349) (by decide +kernel)⟩
theorem lw_p11 : lw_okq (⟨"InodeVolumes$Survey", "standInLine", "(II)V"⟩, 10) := ⟨⟨by decide +kernel, by decide +kernel⟩, List.mem_of_getElem? (i := 104) (by decide +kernel), List.mem_of_getElem? (i := 359) (by decide +kernel), List.mem_of_getElem? (i := 360) (by decide +kernel)⟩
theorem lw_p12 : lw_okq (⟨"InodeVolumes$Survey", "entriesStand", "(II)Z"⟩, 10) := ⟨⟨by decide +kernel, by decide +kernel⟩, List.mem_of_getElem? (i := 104) (by decide +kernel), List.mem_of_getElem? (i := 363) (by decide +kernel), List.mem_of_getElem? (i := 364) (by decide +kernel)⟩
theorem lw_p13 : lw_okq (⟨"InodeVolumes$Survey", "entryStands", "(II)Z"⟩, 10) := ⟨⟨by decide +kernel, by decide +kernel⟩, List.mem_of_getElem? (i := 104) (by decide +kernel), List.mem_of_getElem? (i := 394) (by decide +kernel), List.mem_of_getElem? (i := 395) (by decide +kernel)⟩
theorem lw_p14 : lw_okq (⟨"InodeVolumes$Survey", "itemsComeUp", "(I)Z"⟩, 10) := ⟨⟨by decide +kernel, by decide +kernel⟩, List.mem_of_getElem? (i := 104) (by decide +kernel), List.mem_of_getElem? (i := 444) (by decide +kernel), List.mem_of_getElem? (i := 445) (by decide +kernel)⟩
theorem lw_p15 : lw_okq (⟨"InodeVolumes$Survey", "isKnown", "(I)Z"⟩, 10) := ⟨⟨by decide +kernel, by decide +kernel⟩, List.mem_of_getElem? (i := 104) (by decide +kernel), List.mem_of_getElem? (i := 452) (by decide +kernel), List.mem_of_getElem? (i := 453) (by decide +kernel)⟩
def lw_privs_1 : List (MethodName × Nat) := [(⟨"InodeVolumes", "beginAgain", "()V"⟩, 5), (⟨"InodeVolumes$Survey", "superblockStands", "()Z"⟩, 10), (⟨"InodeVolumes$Survey", "superblockHas", "(IIJ)Z"⟩, 10), (⟨"InodeVolumes$Survey", "copiesStand", "()Z"⟩, 10), (⟨"InodeVolumes$Survey", "hasCopies", "(I)Z"⟩, 10), (⟨"InodeVolumes$Survey", "groupsStand", "()Z"⟩, 10), (⟨"InodeVolumes$Survey", "fix", "(II)V"⟩, 10), (⟨"InodeVolumes$Survey", "treeFault", "()I"⟩, 10), (⟨"InodeVolumes$Survey", "takeWhole", "(I)Z"⟩, 10), (⟨"InodeVolumes$Survey", "spareAreZero", "(II)Z"⟩, 10), (⟨"InodeVolumes$Survey", "take", "(J)Z"⟩, 10), (⟨"InodeVolumes$Survey", "standInLine", "(II)V"⟩, 10), (⟨"InodeVolumes$Survey", "entriesStand", "(II)Z"⟩, 10), (⟨"InodeVolumes$Survey", "entryStands", "(II)Z"⟩, 10), (⟨"InodeVolumes$Survey", "itemsComeUp", "(I)Z"⟩, 10), (⟨"InodeVolumes$Survey", "isKnown", "(I)Z"⟩, 10)]
theorem lw_r1 : ∀ q ∈ lw_privs_1, lw_okq q := List.forall_mem_cons.mpr ⟨lw_p0, List.forall_mem_cons.mpr ⟨lw_p1, List.forall_mem_cons.mpr ⟨lw_p2, List.forall_mem_cons.mpr ⟨lw_p3, List.forall_mem_cons.mpr ⟨lw_p4, List.forall_mem_cons.mpr ⟨lw_p5, List.forall_mem_cons.mpr ⟨lw_p6, List.forall_mem_cons.mpr ⟨lw_p7, List.forall_mem_cons.mpr ⟨lw_p8, List.forall_mem_cons.mpr ⟨lw_p9, List.forall_mem_cons.mpr ⟨lw_p10, List.forall_mem_cons.mpr ⟨lw_p11, List.forall_mem_cons.mpr ⟨lw_p12, List.forall_mem_cons.mpr ⟨lw_p13, List.forall_mem_cons.mpr ⟨lw_p14, List.forall_mem_cons.mpr ⟨lw_p15, fun _ h => absurd h List.not_mem_nil⟩⟩⟩⟩⟩⟩⟩⟩⟩⟩⟩⟩⟩⟩⟩⟩
theorem lw_p16 : lw_okq (⟨"InodeVolumes$Survey", "lateFault", "()I"⟩, 10) := ⟨⟨by decide +kernel, by decide +kernel⟩, List.mem_of_getElem? (i := 104) (by decide +kernel), List.mem_of_getElem? (i := 456) (by decide +kernel), List.mem_of_getElem? (i := 457) (by decide +kernel)⟩
theorem lw_p17 : lw_okq (⟨"InodeVolumes$Survey", "linksStand", "()Z"⟩, 10) := ⟨⟨by decide +kernel, by decide +kernel⟩, List.mem_of_getElem? (i := 104) (by decide +kernel), List.mem_of_getElem? (i := 460) (by decide +kernel), List.mem_of_getElem? (i := 461) (by decide +kernel)⟩
theorem lw_p18 : lw_okq (⟨"InodeVolumes$Survey", "inodesStand", "()Z"⟩, 10) := ⟨⟨by decide +kernel, by decide +kernel⟩, List.mem_of_getElem? (i := 104) (by decide +kernel), List.mem_of_getElem? (i := 464) (by decide +kernel), List.mem_of_getElem? (i := 465) (by decide +kernel)⟩
theorem lw_p19 : lw_okq (⟨"InodeVolumes$Survey", "isBlank", "(I)Z"⟩, 10) := ⟨⟨by decide +kernel, by decide +kernel⟩, List.mem_of_getElem? (i := 104) (by decide +kernel), List.mem_of_getElem? (i := 468) (by decide +kernel), List.mem_of_getElem? (i := 469) (by decide +kernel)⟩
theorem lw_p20 : lw_okq (⟨"InodeVolumes$Survey", "mapsStand", "()Z"⟩, 10) := ⟨⟨by decide +kernel, by decide +kernel⟩, List.mem_of_getElem? (i := 104) (by decide +kernel), List.mem_of_getElem? (i := 472) (by decide +kernel), List.mem_of_getElem? (i := 473) (by decide +kernel)⟩
theorem lw_p21 : lw_okq (⟨"InodeVolumes$Survey", "blockMapStands", "(I)Z"⟩, 10) := ⟨⟨by decide +kernel, by decide +kernel⟩, List.mem_of_getElem? (i := 104) (by decide +kernel), List.mem_of_getElem? (i := 476) (by decide +kernel), List.mem_of_getElem? (i := 477) (by decide +kernel)⟩
theorem lw_p22 : lw_okq (⟨"InodeVolumes$Survey", "isTaken", "(I)Z"⟩, 10) := ⟨⟨by decide +kernel, by decide +kernel⟩, List.mem_of_getElem? (i := 104) (by decide +kernel), List.mem_of_getElem? (i := 488) (by decide +kernel), List.mem_of_getElem? (i := 489) (by decide +kernel)⟩
theorem lw_p23 : lw_okq (⟨"InodeVolumes$Survey", "freeBlocks", "(I)I"⟩, 10) := ⟨⟨by decide +kernel, by decide +kernel⟩, List.mem_of_getElem? (i := 104) (by decide +kernel), List.mem_of_getElem? (i := 501) (by decide +kernel), List.mem_of_getElem? (i := 502) (by decide +kernel)⟩
theorem lw_p24 : lw_okq (⟨"InodeVolumes$Survey", "freeInodes", "(I)I"⟩, 10) := ⟨⟨by decide +kernel, by decide +kernel⟩, List.mem_of_getElem? (i := 104) (by decide +kernel), List.mem_of_getElem? (i := 505) (by decide +kernel), List.mem_of_getElem? (i := 506) (by decide +kernel)⟩
theorem lw_p25 : lw_okq (⟨"InodeVolumes$Survey", "directories", "(I)I"⟩, 10) := ⟨⟨by decide +kernel, by decide +kernel⟩, List.mem_of_getElem? (i := 104) (by decide +kernel), List.mem_of_getElem? (i := 509) (by decide +kernel), List.mem_of_getElem? (i := 510) (by decide +kernel)⟩
theorem lw_p26 : lw_okq (⟨"java/lang/Throwable", "fillInStackTrace", "(I)Ljava/lang/Throwable;"⟩, 6) := ⟨⟨by decide +kernel, by decide +kernel⟩, List.mem_of_getElem? (i := 563) (by decide +kernel), List.mem_of_getElem? (i := 561) (by decide +kernel), List.mem_of_getElem? (i := 562) (by decide +kernel)⟩
theorem lw_p27 : lw_okq (⟨"InodeVolumes", "countItems", "()I"⟩, 5) := ⟨⟨by decide +kernel, by decide +kernel⟩, List.mem_of_getElem? (i := 16) (by decide +kernel), List.mem_of_getElem? (i := 593) (by decide +kernel), List.mem_of_getElem? (i := 594) (by decide +kernel)⟩
theorem lw_p28 : lw_okq (⟨"InodeVolumes", "seekItem", "(I)V"⟩, 5) := ⟨⟨by decide +kernel, by decide +kernel⟩, List.mem_of_getElem? (i := 16) (by decide +kernel), List.mem_of_getElem? (i := 610) (by decide +kernel), List.mem_of_getElem? (i := 611) (by decide +kernel)⟩
theorem lw_p29 : lw_okq (⟨"InodeVolumes", "lastBlock", "(I)J"⟩, 5) := ⟨⟨by decide +kernel, by decide +kernel⟩, List.mem_of_getElem? (i := 16) (by decide +kernel), List.mem_of_getElem? (i := 648) (by decide +kernel), List.mem_of_getElem? (i := 649) (by decide +kernel)⟩
theorem lw_p30 : lw_okq (⟨"InodeVolumesModel", "isThere", "(JJ)Z"⟩, 19) := ⟨⟨by decide +kernel, by decide +kernel⟩, List.mem_of_getElem? (i := 693) (by decide +kernel), List.mem_of_getElem? (i := 767) (by decide +kernel), List.mem_of_getElem? (i := 768) (by decide +kernel)⟩
theorem lw_p31 : lw_okq (⟨"InodeVolumesModel", "changed", "()Z"⟩, 19) := ⟨⟨by decide +kernel, by decide +kernel⟩, List.mem_of_getElem? (i := 693) (by decide +kernel), List.mem_of_getElem? (i := 772) (by decide +kernel), List.mem_of_getElem? (i := 773) (by decide +kernel)⟩
def lw_privs_2 : List (MethodName × Nat) := [(⟨"InodeVolumes$Survey", "lateFault", "()I"⟩, 10), (⟨"InodeVolumes$Survey", "linksStand", "()Z"⟩, 10), (⟨"InodeVolumes$Survey", "inodesStand", "()Z"⟩, 10), (⟨"InodeVolumes$Survey", "isBlank", "(I)Z"⟩, 10), (⟨"InodeVolumes$Survey", "mapsStand", "()Z"⟩, 10), (⟨"InodeVolumes$Survey", "blockMapStands", "(I)Z"⟩, 10), (⟨"InodeVolumes$Survey", "isTaken", "(I)Z"⟩, 10), (⟨"InodeVolumes$Survey", "freeBlocks", "(I)I"⟩, 10), (⟨"InodeVolumes$Survey", "freeInodes", "(I)I"⟩, 10), (⟨"InodeVolumes$Survey", "directories", "(I)I"⟩, 10), (⟨"java/lang/Throwable", "fillInStackTrace", "(I)Ljava/lang/Throwable;"⟩, 6), (⟨"InodeVolumes", "countItems", "()I"⟩, 5), (⟨"InodeVolumes", "seekItem", "(I)V"⟩, 5), (⟨"InodeVolumes", "lastBlock", "(I)J"⟩, 5), (⟨"InodeVolumesModel", "isThere", "(JJ)Z"⟩, 19), (⟨"InodeVolumesModel", "changed", "()Z"⟩, 19)]
theorem lw_r2 : ∀ q ∈ lw_privs_2, lw_okq q := List.forall_mem_cons.mpr ⟨lw_p16, List.forall_mem_cons.mpr ⟨lw_p17, List.forall_mem_cons.mpr ⟨lw_p18, List.forall_mem_cons.mpr ⟨lw_p19, List.forall_mem_cons.mpr ⟨lw_p20, List.forall_mem_cons.mpr ⟨lw_p21, List.forall_mem_cons.mpr ⟨lw_p22, List.forall_mem_cons.mpr ⟨lw_p23, List.forall_mem_cons.mpr ⟨lw_p24, List.forall_mem_cons.mpr ⟨lw_p25, List.forall_mem_cons.mpr ⟨lw_p26, List.forall_mem_cons.mpr ⟨lw_p27, List.forall_mem_cons.mpr ⟨lw_p28, List.forall_mem_cons.mpr ⟨lw_p29, List.forall_mem_cons.mpr ⟨lw_p30, List.forall_mem_cons.mpr ⟨lw_p31, fun _ h => absurd h List.not_mem_nil⟩⟩⟩⟩⟩⟩⟩⟩⟩⟩⟩⟩⟩⟩⟩⟩
theorem lw_p32 : lw_okq (⟨"InodeVolumesModel", "one", "(I)I"⟩, 19) := ⟨⟨by decide +kernel, by decide +kernel⟩, List.mem_of_getElem? (i := 693) (by decide +kernel), List.mem_of_getElem? (i := 788) (by decide +kernel), List.mem_of_getElem? (i := 789) (by decide +kernel)⟩
theorem lw_p33 : lw_okq (⟨"InodeVolumesModel", "look", "()V"⟩, 19) := ⟨⟨by decide +kernel, by decide +kernel⟩, List.mem_of_getElem? (i := 693) (by decide +kernel), List.mem_of_getElem? (i := 796) (by decide +kernel), List.mem_of_getElem? (i := 797) (by decide +kernel)⟩
theorem lw_p34 : lw_okq (⟨"InodeVolumesModel", "firstFault", "()I"⟩, 19) := ⟨⟨by decide +kernel, by decide +kernel⟩, List.mem_of_getElem? (i := 693) (by decide +kernel), List.mem_of_getElem? (i := 800) (by decide +kernel), List.mem_of_getElem? (i := 801) (by decide +kernel)⟩
theorem lw_p35 : lw_okq (⟨"InodeVolumesModel", "badHead", "()Z"⟩, 19) := ⟨⟨by decide +kernel, by decide +kernel⟩, List.mem_of_getElem? (i := 693) (by decide +kernel), List.mem_of_getElem? (i := 804) (by decide +kernel), List.mem_of_getElem? (i := 805) (by decide +kernel)⟩
theorem lw_p36 : lw_okq (⟨"InodeVolumesModel", "four", "(I)J"⟩, 19) := ⟨⟨by decide +kernel, by decide +kernel⟩, List.mem_of_getElem? (i := 693) (by decide +kernel), List.mem_of_getElem? (i := 808) (by decide +kernel), List.mem_of_getElem? (i := 809) (by decide +kernel)⟩
theorem lw_p37 : lw_okq (⟨"InodeVolumesModel", "two", "(I)I"⟩, 19) := ⟨⟨by decide +kernel, by decide +kernel⟩, List.mem_of_getElem? (i := 693) (by decide +kernel), List.mem_of_getElem? (i := 812) (by decide +kernel), List.mem_of_getElem? (i := 813) (by decide +kernel)⟩
theorem lw_p38 : lw_okq (⟨"InodeVolumesModel", "badCopies", "()Z"⟩, 19) := ⟨⟨by decide +kernel, by decide +kernel⟩, List.mem_of_getElem? (i := 693) (by decide +kernel), List.mem_of_getElem? (i := 825) (by decide +kernel), List.mem_of_getElem? (i := 826) (by decide +kernel)⟩
theorem lw_p39 : lw_okq (⟨"InodeVolumesModel", "sizeOf", "(I)I"⟩, 19) := ⟨⟨by decide +kernel, by decide +kernel⟩, List.mem_of_getElem? (i := 693) (by decide +kernel), List.mem_of_getElem? (i := 829) (by decide +kernel), List.mem_of_getElem? (i := 830) (by decide +kernel)⟩
theorem lw_p40 : lw_okq (⟨"InodeVolumesModel", "begin", "(I)I"⟩, 19) := ⟨⟨by decide +kernel, by decide +kernel⟩, List.mem_of_getElem? (i := 693) (by decide +kernel), List.mem_of_getElem? (i := 833) (by decide +kernel), List.mem_of_getElem? (i := 834) (by decide +kernel)⟩
theorem lw_p41 : lw_okq (⟨"InodeVolumesModel", "badMaps", "()Z"⟩, 19) := ⟨⟨by decide +kernel, by decide +kernel⟩, List.mem_of_getElem? (i := 693) (by decide +kernel), List.mem_of_getElem? (i := 837) (by decide +kernel), List.mem_of_getElem? (i := 838) (by decide +kernel)⟩
theorem lw_p42 : lw_okq (⟨"InodeVolumesModel", "fixes", "(I)Z"⟩, 19) := ⟨⟨by decide +kernel, by decide +kernel⟩, List.mem_of_getElem? (i := 693) (by decide +kernel), List.mem_of_getElem? (i := 841) (by decide +kernel), List.mem_of_getElem? (i := 842) (by decide +kernel)⟩
theorem lw_p43 : lw_okq (⟨"InodeVolumesModel", "tree", "()I"⟩, 19) := ⟨⟨by decide +kernel, by decide +kernel⟩, List.mem_of_getElem? (i := 693) (by decide +kernel), List.mem_of_getElem? (i := 845) (by decide +kernel), List.mem_of_getElem? (i := 846) (by decide +kernel)⟩
theorem lw_p44 : lw_okq (⟨"InodeVolumesModel", "isUsed", "(I)Z"⟩, 19) := ⟨⟨by decide +kernel, by decide +kernel⟩, List.mem_of_getElem? (i := 693) (by decide +kernel), List.mem_of_getElem? (i := 849) (by decide +kernel), List.mem_of_getElem? (i := 850) (by decide +kernel)⟩
theorem lw_p45 : lw_okq (⟨"InodeVolumesModel", "bit", "(II)Z"⟩, 19) := ⟨⟨by decide +kernel, by decide +kernel⟩, List.mem_of_getElem? (i := 693) (by decide +kernel), List.mem_of_getElem? (i := 853) (by decide +kernel), List.mem_of_getElem? (i := 854) (by decide +kernel)⟩
theorem lw_p46 : lw_okq (⟨"InodeVolumesModel", "typeOf", "(I)I"⟩, 19) := ⟨⟨by decide +kernel, by decide +kernel⟩, List.mem_of_getElem? (i := 693) (by decide +kernel), List.mem_of_getElem? (i := 857) (by decide +kernel), List.mem_of_getElem? (i := 858) (by decide +kernel)⟩
theorem lw_p47 : lw_okq (⟨"InodeVolumesModel", "inodeAt", "(I)I"⟩, 19) := ⟨⟨by decide +kernel, by decide +kernel⟩, List.mem_of_getElem? (i := 693) (by decide +kernel), List.mem_of_getElem? (i := 861) (by decide +kernel), List.mem_of_getElem? (i := 862) (by decide +kernel)⟩
def lw_privs_3 : List (MethodName × Nat) := [(⟨"InodeVolumesModel", "one", "(I)I"⟩, 19), (⟨"InodeVolumesModel", "look", "()V"⟩, 19), (⟨"InodeVolumesModel", "firstFault", "()I"⟩, 19), (⟨"InodeVolumesModel", "badHead", "()Z"⟩, 19), (⟨"InodeVolumesModel", "four", "(I)J"⟩, 19), (⟨"InodeVolumesModel", "two", "(I)I"⟩, 19), (⟨"InodeVolumesModel", "badCopies", "()Z"⟩, 19), (⟨"InodeVolumesModel", "sizeOf", "(I)I"⟩, 19), (⟨"InodeVolumesModel", "begin", "(I)I"⟩, 19), (⟨"InodeVolumesModel", "badMaps", "()Z"⟩, 19), (⟨"InodeVolumesModel", "fixes", "(I)Z"⟩, 19), (⟨"InodeVolumesModel", "tree", "()I"⟩, 19), (⟨"InodeVolumesModel", "isUsed", "(I)Z"⟩, 19), (⟨"InodeVolumesModel", "bit", "(II)Z"⟩, 19), (⟨"InodeVolumesModel", "typeOf", "(I)I"⟩, 19), (⟨"InodeVolumesModel", "inodeAt", "(I)I"⟩, 19)]
theorem lw_r3 : ∀ q ∈ lw_privs_3, lw_okq q := List.forall_mem_cons.mpr ⟨lw_p32, List.forall_mem_cons.mpr ⟨lw_p33, List.forall_mem_cons.mpr ⟨lw_p34, List.forall_mem_cons.mpr ⟨lw_p35, List.forall_mem_cons.mpr ⟨lw_p36, List.forall_mem_cons.mpr ⟨lw_p37, List.forall_mem_cons.mpr ⟨lw_p38, List.forall_mem_cons.mpr ⟨lw_p39, List.forall_mem_cons.mpr ⟨lw_p40, List.forall_mem_cons.mpr ⟨lw_p41, List.forall_mem_cons.mpr ⟨lw_p42, List.forall_mem_cons.mpr ⟨lw_p43, List.forall_mem_cons.mpr ⟨lw_p44, List.forall_mem_cons.mpr ⟨lw_p45, List.forall_mem_cons.mpr ⟨lw_p46, List.forall_mem_cons.mpr ⟨lw_p47, fun _ h => absurd h List.not_mem_nil⟩⟩⟩⟩⟩⟩⟩⟩⟩⟩⟩⟩⟩⟩⟩⟩
theorem lw_p48 : lw_okq (⟨"InodeVolumesModel", "isWhole", "(I)Z"⟩, 19) := ⟨⟨by decide +kernel, by decide +kernel⟩, List.mem_of_getElem? (i := 693) (by decide +kernel), List.mem_of_getElem? (i := 866) (by decide +kernel), List.mem_of_getElem? (i := 867) (by decide +kernel)⟩
theorem lw_p49 : lw_okq (⟨"InodeVolumesModel", "sizeOfInode", "(I)J"⟩, 19) := ⟨⟨by decide +kernel, by decide +kernel⟩, List.mem_of_getElem? (i := 693) (by decide +kernel), List.mem_of_getElem? (i := 870) (by decide +kernel), List.mem_of_getElem? (i := 871) (by decide +kernel)⟩
theorem lw_p50 : lw_okq (⟨"InodeVolumesModel", "pointer", "(II)J"⟩, 19) := ⟨⟨by decide +kernel, by decide +kernel⟩, List.mem_of_getElem? (i := 693) (by decide +kernel), List.mem_of_getElem? (i := 877) (by decide +kernel), List.mem_of_getElem? (i := 878) (by decide +kernel)⟩
theorem lw_p51 : lw_okq (⟨"InodeVolumesModel", "takes", "(J)Z"⟩, 19) := ⟨⟨by decide +kernel, by decide +kernel⟩, List.mem_of_getElem? (i := 693) (by decide +kernel), List.mem_of_getElem? (i := 881) (by decide +kernel), List.mem_of_getElem? (i := 882) (by decide +kernel)⟩
theorem lw_p52 : lw_okq (⟨"InodeVolumesModel", "blockOf", "(II)J"⟩, 19) := ⟨⟨by decide +kernel, by decide +kernel⟩, List.mem_of_getElem? (i := 693) (by decide +kernel), List.mem_of_getElem? (i := 885) (by decide +kernel), List.mem_of_getElem? (i := 886) (by decide +kernel)⟩
theorem lw_p53 : lw_okq (⟨"InodeVolumesModel", "comes", "(II)V"⟩, 19) := ⟨⟨by decide +kernel, by decide +kernel⟩, List.mem_of_getElem? (i := 693) (by decide +kernel), List.mem_of_getElem? (i := 889) (by decide +kernel), List.mem_of_getElem? (i := 890) (by decide +kernel)⟩
theorem lw_p54 : lw_okq (⟨"InodeVolumesModel", "badEntries", "(I)Z"⟩, 19) := ⟨⟨by decide +kernel, by decide +kernel⟩, List.mem_of_getElem? (i := 693) (by decide +kernel), List.mem_of_getElem? (i := 893) (by decide +kernel), List.mem_of_getElem? (i := 894) (by decide +kernel)⟩
theorem lw_p55 : lw_okq (⟨"InodeVolumesModel", "isEntry", "(IIII)Z"⟩, 19) := ⟨⟨by decide +kernel, by decide +kernel⟩, List.mem_of_getElem? (i := 693) (by decide +kernel), List.mem_of_getElem? (i := 897) (by decide +kernel), List.mem_of_getElem? (i := 898) (by decide +kernel)⟩
theorem lw_p56 : lw_okq (⟨"InodeVolumesModel", "lengthAt", "(I)I"⟩, 19) := ⟨⟨by decide +kernel, by decide +kernel⟩, List.mem_of_getElem? (i := 693) (by decide +kernel), List.mem_of_getElem? (i := 901) (by decide +kernel), List.mem_of_getElem? (i := 902) (by decide +kernel)⟩
theorem lw_p57 : lw_okq (⟨"InodeVolumesModel", "nameSize", "(I)I"⟩, 19) := ⟨⟨by decide +kernel, by decide +kernel⟩, List.mem_of_getElem? (i := 693) (by decide +kernel), List.mem_of_getElem? (i := 905) (by decide +kernel), List.mem_of_getElem? (i := 906) (by decide +kernel)⟩
theorem lw_p58 : lw_okq (⟨"InodeVolumesModel", "isDots", "(II)Z"⟩, 19) := ⟨⟨by decide +kernel, by decide +kernel⟩, List.mem_of_getElem? (i := 693) (by decide +kernel), List.mem_of_getElem? (i := 909) (by decide +kernel), List.mem_of_getElem? (i := 910) (by decide +kernel)⟩
theorem lw_p59 : lw_okq (⟨"InodeVolumesModel", "finds", "(II)Z"⟩, 19) := ⟨⟨by decide +kernel, by decide +kernel⟩, List.mem_of_getElem? (i := 693) (by decide +kernel), List.mem_of_getElem? (i := 914) (by decide +kernel), List.mem_of_getElem? (i := 915) (by decide +kernel)⟩
theorem lw_p60 : lw_okq (⟨"InodeVolumesModel", "badLinks", "()Z"⟩, 19) := ⟨⟨by decide +kernel, by decide +kernel⟩, List.mem_of_getElem? (i := 693) (by decide +kernel), List.mem_of_getElem? (i := 918) (by decide +kernel), List.mem_of_getElem? (i := 919) (by decide +kernel)⟩
theorem lw_p61 : lw_okq (⟨"InodeVolumesModel", "badInodes", "()Z"⟩, 19) := ⟨⟨by decide +kernel, by decide +kernel⟩, List.mem_of_getElem? (i := 693) (by decide +kernel), List.mem_of_getElem? (i := 922) (by decide +kernel), List.mem_of_getElem? (i := 923) (by decide +kernel)⟩
theorem lw_p62 : lw_okq (⟨"InodeVolumesModel", "badCounts", "()Z"⟩, 19) := ⟨⟨by decide +kernel, by decide +kernel⟩, List.mem_of_getElem? (i := 693) (by decide +kernel), List.mem_of_getElem? (i := 926) (by decide +kernel), List.mem_of_getElem? (i := 927) (by decide +kernel)⟩
theorem lw_p63 : lw_okq (⟨"InodeVolumesModel", "none", "()Z"⟩, 19) := ⟨⟨by decide +kernel, by decide +kernel⟩, List.mem_of_getElem? (i := 693) (by decide +kernel), List.mem_of_getElem? (i := 934) (by decide +kernel), List.mem_of_getElem? (i := 935) (by decide +kernel)⟩
def lw_privs_4 : List (MethodName × Nat) := [(⟨"InodeVolumesModel", "isWhole", "(I)Z"⟩, 19), (⟨"InodeVolumesModel", "sizeOfInode", "(I)J"⟩, 19), (⟨"InodeVolumesModel", "pointer", "(II)J"⟩, 19), (⟨"InodeVolumesModel", "takes", "(J)Z"⟩, 19), (⟨"InodeVolumesModel", "blockOf", "(II)J"⟩, 19), (⟨"InodeVolumesModel", "comes", "(II)V"⟩, 19), (⟨"InodeVolumesModel", "badEntries", "(I)Z"⟩, 19), (⟨"InodeVolumesModel", "isEntry", "(IIII)Z"⟩, 19), (⟨"InodeVolumesModel", "lengthAt", "(I)I"⟩, 19), (⟨"InodeVolumesModel", "nameSize", "(I)I"⟩, 19), (⟨"InodeVolumesModel", "isDots", "(II)Z"⟩, 19), (⟨"InodeVolumesModel", "finds", "(II)Z"⟩, 19), (⟨"InodeVolumesModel", "badLinks", "()Z"⟩, 19), (⟨"InodeVolumesModel", "badInodes", "()Z"⟩, 19), (⟨"InodeVolumesModel", "badCounts", "()Z"⟩, 19), (⟨"InodeVolumesModel", "none", "()Z"⟩, 19)]
theorem lw_r4 : ∀ q ∈ lw_privs_4, lw_okq q := List.forall_mem_cons.mpr ⟨lw_p48, List.forall_mem_cons.mpr ⟨lw_p49, List.forall_mem_cons.mpr ⟨lw_p50, List.forall_mem_cons.mpr ⟨lw_p51, List.forall_mem_cons.mpr ⟨lw_p52, List.forall_mem_cons.mpr ⟨lw_p53, List.forall_mem_cons.mpr ⟨lw_p54, List.forall_mem_cons.mpr ⟨lw_p55, List.forall_mem_cons.mpr ⟨lw_p56, List.forall_mem_cons.mpr ⟨lw_p57, List.forall_mem_cons.mpr ⟨lw_p58, List.forall_mem_cons.mpr ⟨lw_p59, List.forall_mem_cons.mpr ⟨lw_p60, List.forall_mem_cons.mpr ⟨lw_p61, List.forall_mem_cons.mpr ⟨lw_p62, List.forall_mem_cons.mpr ⟨lw_p63, fun _ h => absurd h List.not_mem_nil⟩⟩⟩⟩⟩⟩⟩⟩⟩⟩⟩⟩⟩⟩⟩⟩
theorem lw_p64 : lw_okq (⟨"InodeVolumesModel", "fails", "(ZI)Z"⟩, 19) := ⟨⟨by decide +kernel, by decide +kernel⟩, List.mem_of_getElem? (i := 693) (by decide +kernel), List.mem_of_getElem? (i := 938) (by decide +kernel), List.mem_of_getElem? (i := 939) (by decide +kernel)⟩
theorem lw_p65 : lw_okq (⟨"InodeVolumesModel", "count", "()I"⟩, 19) := ⟨⟨by decide +kernel, by decide +kernel⟩, List.mem_of_getElem? (i := 693) (by decide +kernel), List.mem_of_getElem? (i := 942) (by decide +kernel), List.mem_of_getElem? (i := 943) (by decide +kernel)⟩
theorem lw_p66 : lw_okq (⟨"InodeVolumesModel", "no", "(I)Z"⟩, 19) := ⟨⟨by decide +kernel, by decide +kernel⟩, List.mem_of_getElem? (i := 693) (by decide +kernel), List.mem_of_getElem? (i := 950) (by decide +kernel), List.mem_of_getElem? (i := 951) (by decide +kernel)⟩
def lw_privs_5 : List (MethodName × Nat) := [(⟨"InodeVolumesModel", "fails", "(ZI)Z"⟩, 19), (⟨"InodeVolumesModel", "count", "()I"⟩, 19), (⟨"InodeVolumesModel", "no", "(I)Z"⟩, 19)]
theorem lw_r5 : ∀ q ∈ lw_privs_5, lw_okq q := List.forall_mem_cons.mpr ⟨lw_p64, List.forall_mem_cons.mpr ⟨lw_p65, List.forall_mem_cons.mpr ⟨lw_p66, fun _ h => absurd h List.not_mem_nil⟩⟩⟩
def lw_privs : List (MethodName × Nat) := lw_privs_1 ++ (lw_privs_2 ++ (lw_privs_3 ++ (lw_privs_4 ++ (lw_privs_5))))
def lw_tbl : List Cond := k2_sels lw_privs ++ tables_1
theorem lw_privs_ok : ∀ q ∈ lw_privs, lw_okq q := by
  show ∀ q ∈ lw_privs_1 ++ (lw_privs_2 ++ (lw_privs_3 ++ (lw_privs_4 ++ (lw_privs_5)))), lw_okq q
  exact List.forall_mem_append.mpr ⟨lw_r1, List.forall_mem_append.mpr ⟨lw_r2, List.forall_mem_append.mpr ⟨lw_r3, List.forall_mem_append.mpr ⟨lw_r4, lw_r5⟩⟩⟩⟩
end
section
abbrev R_V : String := "InodeVolumes"
abbrev R_D : String := "InodeVolumes$Disk"
abbrev R_E : String := "InodeVolumes$Entries"
abbrev R_L : String := "InodeVolumes$Layout"
abbrev R_S : String := "InodeVolumes$Survey"
abbrev R_M : String := "InodeVolumesModel"
abbrev R_A : String := "InodeVolumesLaw"
abbrev R_J : String := "java/util/Arrays"
def T_D : u_T := fun k => match k with
  | 0 => (R_D, "blocks", "I", true)
  | 1 => (R_D, "size", "I", true)
  | _ => (R_D, "words", "[J", true)
def ty_D : Nat → FieldType := fun k => match k with
  | 0 => .int
  | 1 => .int
  | _ => .array .long
theorem nm_D : ∀ a, a < 3 → ∀ b, b < 3 → a ≠ b → (T_D a).2.1 ≠ (T_D b).2.1 := by decide +kernel
theorem tyok_D : ∀ k, k < 3 → parseFieldDescriptor (T_D k).2.2.1 = some (ty_D k) := by decide +kernel
def T_E : u_T := fun k => match k with
  | 0 => (R_E, "disk", "LInodeVolumes$Disk;", true)
  | 1 => (R_E, "layout", "LInodeVolumes$Layout;", true)
  | 2 => (R_E, "directory", "I", false)
  | 3 => (R_E, "size", "J", false)
  | 4 => (R_E, "offset", "J", false)
  | 5 => (R_E, "order", "I", false)
  | 6 => (R_E, "place", "J", false)
  | _ => (R_E, "head", "J", false)
def ty_E : Nat → FieldType := fun k => match k with
  | 0 => .object "InodeVolumes$Disk"
  | 1 => .object "InodeVolumes$Layout"
  | 2 => .int
  | 3 => .long
  | 4 => .long
  | 5 => .int
  | 6 => .long
  | _ => .long
theorem nm_E : ∀ a, a < 8 → ∀ b, b < 8 → a ≠ b → (T_E a).2.1 ≠ (T_E b).2.1 := by decide +kernel
theorem tyok_E : ∀ k, k < 8 → parseFieldDescriptor (T_E k).2.2.1 = some (ty_E k) := by decide +kernel
def T_L : u_T := fun k => match k with
  | 0 => (R_L, "disk", "LInodeVolumes$Disk;", true)
  | 1 => (R_L, "mapBlock", "[I", true)
  | 2 => (R_L, "groupBlocks", "I", false)
  | 3 => (R_L, "groupInodes", "I", false)
  | 4 => (R_L, "groups", "I", false)
  | _ => (R_L, "inodes", "I", false)
def ty_L : Nat → FieldType := fun k => match k with
  | 0 => .object "InodeVolumes$Disk"
  | 1 => .array .int
  | 2 => .int
  | 3 => .int
  | 4 => .int
  | _ => .int
theorem nm_L : ∀ a, a < 6 → ∀ b, b < 6 → a ≠ b → (T_L a).2.1 ≠ (T_L b).2.1 := by decide +kernel
theorem tyok_L : ∀ k, k < 6 → parseFieldDescriptor (T_L k).2.2.1 = some (ty_L k) := by decide +kernel
def T_S : u_T := fun k => match k with
  | 0 => (R_S, "disk", "LInodeVolumes$Disk;", true)
  | 1 => (R_S, "layout", "LInodeVolumes$Layout;", true)
  | 2 => (R_S, "entries", "LInodeVolumes$Entries;", true)
  | 3 => (R_S, "taken", "[I", true)
  | 4 => (R_S, "known", "[I", true)
  | 5 => (R_S, "line", "[I", true)
  | 6 => (R_S, "parents", "[I", true)
  | 7 => (R_S, "inside", "[I", true)
  | 8 => (R_S, "came", "I", false)
  | _ => (R_S, "found", "I", false)
def ty_S : Nat → FieldType := fun k => match k with
  | 0 => .object "InodeVolumes$Disk"
  | 1 => .object "InodeVolumes$Layout"
  | 2 => .object "InodeVolumes$Entries"
  | 3 => .array .int
  | 4 => .array .int
  | 5 => .array .int
  | 6 => .array .int
  | 7 => .array .int
  | 8 => .int
  | _ => .int
theorem nm_S : ∀ a, a < 10 → ∀ b, b < 10 → a ≠ b → (T_S a).2.1 ≠ (T_S b).2.1 := by decide +kernel
theorem tyok_S : ∀ k, k < 10 → parseFieldDescriptor (T_S k).2.2.1 = some (ty_S k) := by decide +kernel
def T_V : u_T := fun k => match k with
  | 0 => (R_V, "disk", "LInodeVolumes$Disk;", true)
  | 1 => (R_V, "layout", "LInodeVolumes$Layout;", true)
  | 2 => (R_V, "entries", "LInodeVolumes$Entries;", true)
  | 3 => (R_V, "survey", "LInodeVolumes$Survey;", true)
  | _ => (R_V, "here", "I", false)
def ty_V : Nat → FieldType := fun k => match k with
  | 0 => .object "InodeVolumes$Disk"
  | 1 => .object "InodeVolumes$Layout"
  | 2 => .object "InodeVolumes$Entries"
  | 3 => .object "InodeVolumes$Survey"
  | _ => .int
theorem nm_V : ∀ a, a < 5 → ∀ b, b < 5 → a ≠ b → (T_V a).2.1 ≠ (T_V b).2.1 := by decide +kernel
theorem tyok_V : ∀ k, k < 5 → parseFieldDescriptor (T_V k).2.2.1 = some (ty_V k) := by decide +kernel
def T_M : u_T := fun k => match k with
  | 0 => (R_M, "thrown", "I", false)
  | 1 => (R_M, "blocks", "I", true)
  | 2 => (R_M, "disk", "[B", true)
  | 3 => (R_M, "looked", "Z", false)
  | 4 => (R_M, "fault", "I", false)
  | 5 => (R_M, "p", "I", false)
  | 6 => (R_M, "g", "I", false)
  | 7 => (R_M, "j", "I", false)
  | 8 => (R_M, "q", "I", false)
  | 9 => (R_M, "map", "[I", true)
  | 10 => (R_M, "fixed", "[Z", true)
  | 11 => (R_M, "taken", "[Z", true)
  | 12 => (R_M, "many", "I", false)
  | 13 => (R_M, "order", "[I", true)
  | 14 => (R_M, "parent", "[I", true)
  | 15 => (R_M, "folders", "[I", true)
  | 16 => (R_M, "came", "[Z", true)
  | 17 => (R_M, "here", "I", false)
  | _ => (R_M, "found", "I", false)
def ty_M : Nat → FieldType := fun k => match k with
  | 0 => .int
  | 1 => .int
  | 2 => .array .byte
  | 3 => .boolean
  | 4 => .int
  | 5 => .int
  | 6 => .int
  | 7 => .int
  | 8 => .int
  | 9 => .array .int
  | 10 => .array .boolean
  | 11 => .array .boolean
  | 12 => .int
  | 13 => .array .int
  | 14 => .array .int
  | 15 => .array .int
  | 16 => .array .boolean
  | 17 => .int
  | _ => .int
theorem nm_M : ∀ a, a < 19 → ∀ b, b < 19 → a ≠ b → (T_M a).2.1 ≠ (T_M b).2.1 := by decide +kernel
theorem tyok_M : ∀ k, k < 19 → parseFieldDescriptor (T_M k).2.2.1 = some (ty_M k) := by decide +kernel
abbrev clAll : List vw_C := [(R_D, T_D, 3), (R_E, T_E, 8), (R_L, T_L, 6), (R_S, T_S, 10), (R_V, T_V, 5), (R_M, T_M, 19)]
/-- the tables' words that stay: every method's list of words is its own code and these -/
def TB : List Cond := lw_tbl.filter goodWord
theorem inTB {w : Cond} (i : Nat) (h : lw_tbl[i]? = some w) (g : goodWord w = true) : w ∈ TB := List.mem_filter.mpr ⟨List.mem_of_getElem? h, g⟩
theorem goodTB {w : Cond} (h : w ∈ TB) : (w.onTables && w.keeps) = true ∨ ∃ ty, w = .arrayClass ty := good_of_word (List.mem_filter.mp h).2
theorem gV {own C : String} {idx : Nat} {y : MethodName} {b : ByteArray} {n : Nat} {r : Option FieldType} (h1 : Cond.methodLink own idx y ∈ TB) (h2 : Cond.instanceMethod y ∈ TB) (h3 : Cond.selects C y y ∈ TB) (h4 : Cond.initialized C ∈ TB) (h5 : Cond.code y b n r ∈ TB) : GoodIn TB (wsV own idx C y (Cond.code y b n r :: TB)) := by
  have key : ∀ w ∈ wsV own idx C y (Cond.code y b n r :: TB), w ∈ TB := by
    intro w hw
    unfold wsV at hw
    rcases List.mem_append.mp hw with h | h
    · simp only [List.mem_cons, List.not_mem_nil, or_false] at h
      rcases h with h | h | h | h <;> subst h <;> assumption
    · rcases List.mem_cons.mp h with h | h
      · subst h; exact h5
      · exact h
  exact fun w hw => ⟨key w hw, goodTB (key w hw)⟩
theorem gS {own : String} {idx : Nat} {y : MethodName} {b : ByteArray} {n : Nat} {r : Option FieldType} (h1 : Cond.methodLink own idx y ∈ TB) (h2 : Cond.static y ∈ TB) (h4 : Cond.initialized y.cls ∈ TB) (h5 : Cond.code y b n r ∈ TB) : GoodIn TB (va_wsS own idx y (Cond.code y b n r :: TB)) := by
  have key : ∀ w ∈ va_wsS own idx y (Cond.code y b n r :: TB), w ∈ TB := by
    intro w hw
    unfold va_wsS at hw
    rcases List.mem_append.mp hw with h | h
    · simp only [List.mem_cons, List.not_mem_nil, or_false] at h
      rcases h with h | h | h <;> subst h <;> assumption
    · rcases List.mem_cons.mp h with h | h
      · subst h; exact h5
      · exact h
  exact fun w hw => ⟨key w hw, goodTB (key w hw)⟩
theorem in_D : ∀ w ∈ u_ws R_D T_D 3, w ∈ TB := by
  have h : (u_ws R_D T_D 3).all (fun w => decide (w ∈ lw_tbl) && goodWord w) = true := by decide +kernel
  intro w hw
  have h1 := List.all_eq_true.mp h w hw
  rw [Bool.and_eq_true, decide_eq_true_eq] at h1
  exact List.mem_filter.mpr h1
theorem in_E : ∀ w ∈ u_ws R_E T_E 8, w ∈ TB := by
  have h : (u_ws R_E T_E 8).all (fun w => decide (w ∈ lw_tbl) && goodWord w) = true := by decide +kernel
  intro w hw
  have h1 := List.all_eq_true.mp h w hw
  rw [Bool.and_eq_true, decide_eq_true_eq] at h1
  exact List.mem_filter.mpr h1
theorem in_L : ∀ w ∈ u_ws R_L T_L 6, w ∈ TB := by
  have h : (u_ws R_L T_L 6).all (fun w => decide (w ∈ lw_tbl) && goodWord w) = true := by decide +kernel
  intro w hw
  have h1 := List.all_eq_true.mp h w hw
  rw [Bool.and_eq_true, decide_eq_true_eq] at h1
  exact List.mem_filter.mpr h1
theorem in_S : ∀ w ∈ u_ws R_S T_S 10, w ∈ TB := by
  have h : (u_ws R_S T_S 10).all (fun w => decide (w ∈ lw_tbl) && goodWord w) = true := by decide +kernel
  intro w hw
  have h1 := List.all_eq_true.mp h w hw
  rw [Bool.and_eq_true, decide_eq_true_eq] at h1
  exact List.mem_filter.mpr h1
theorem in_V : ∀ w ∈ u_ws R_V T_V 5, w ∈ TB := by
  have h : (u_ws R_V T_V 5).all (fun w => decide (w ∈ lw_tbl) && goodWord w) = true := by decide +kernel
  intro w hw
  have h1 := List.all_eq_true.mp h w hw
  rw [Bool.and_eq_true, decide_eq_true_eq] at h1
  exact List.mem_filter.mpr h1
theorem in_M : ∀ w ∈ u_ws R_M T_M 19, w ∈ TB := by
  have h : (u_ws R_M T_M 19).all (fun w => decide (w ∈ lw_tbl) && goodWord w) = true := by decide +kernel
  intro w hw
  have h1 := List.all_eq_true.mp h w hw
  rw [Bool.and_eq_true, decide_eq_true_eq] at h1
  exact List.mem_filter.mpr h1
abbrev y_A_about : MethodName := ⟨R_A, "about", "(LInodeVolumes;II[J)I"⟩
abbrev b_A_about : ByteArray := method_5_code
abbrev y_A_cell : MethodName := ⟨R_A, "cell", "([II)I"⟩
abbrev b_A_cell : ByteArray := method_2_code
abbrev ws_A_cell : List Cond := Cond.code y_A_cell b_A_cell 2 (some .int) :: TB
abbrev y_A_content : MethodName := ⟨R_A, "content", "(LInodeVolumes;II[J)I"⟩
abbrev b_A_content : ByteArray := method_6_code
abbrev y_A_enter : MethodName := ⟨R_A, "enter", "(LInodeVolumes;I[J)I"⟩
abbrev b_A_enter : ByteArray := method_7_code
abbrev y_A_items : MethodName := ⟨R_A, "items", "(LInodeVolumes;[J)I"⟩
abbrev b_A_items : ByteArray := method_3_code
abbrev y_A_letter : MethodName := ⟨R_A, "letter", "(LInodeVolumes;II[J)I"⟩
abbrev b_A_letter : ByteArray := method_4_code
abbrev y_A_up : MethodName := ⟨R_A, "up", "(LInodeVolumes;[J)I"⟩
abbrev b_A_up : ByteArray := method_8_code
abbrev y_D_init : MethodName := ⟨R_D, "<init>", "(I)V"⟩
abbrev b_D_init : ByteArray := prog_2_method_1_code
abbrev ws_D_init : List Cond := Cond.code y_D_init b_D_init 2 none :: TB
abbrev y_D_bit : MethodName := ⟨R_D, "bit", "(JI)Z"⟩
abbrev b_D_bit : ByteArray := prog_2_method_8_code
abbrev ws_D_bit : List Cond := Cond.code y_D_bit b_D_bit 4 (some .boolean) :: TB
abbrev y_D_blocks : MethodName := ⟨R_D, "blocks", "()I"⟩
abbrev b_D_blocks : ByteArray := prog_2_method_2_code
abbrev ws_D_blocks : List Cond := Cond.code y_D_blocks b_D_blocks 1 (some .int) :: TB
abbrev y_D_holds : MethodName := ⟨R_D, "holds", "(JI)Z"⟩
abbrev b_D_holds : ByteArray := prog_2_method_3_code
abbrev ws_D_holds : List Cond := Cond.code y_D_holds b_D_holds 4 (some .boolean) :: TB
abbrev y_D_move : MethodName := ⟨R_D, "move", "(III)V"⟩
abbrev b_D_move : ByteArray := prog_2_method_7_code
abbrev ws_D_move : List Cond := Cond.code y_D_move b_D_move 5 none :: TB
abbrev y_D_number : MethodName := ⟨R_D, "number", "(JI)J"⟩
abbrev b_D_number : ByteArray := prog_2_method_4_code
abbrev ws_D_number : List Cond := Cond.code y_D_number b_D_number 8 (some .long) :: TB
abbrev y_D_onesFrom : MethodName := ⟨R_D, "onesFrom", "(JI)Z"⟩
abbrev b_D_onesFrom : ByteArray := prog_2_method_9_code
abbrev ws_D_onesFrom : List Cond := Cond.code y_D_onesFrom b_D_onesFrom 5 (some .boolean) :: TB
abbrev y_D_set : MethodName := ⟨R_D, "set", "(JIJ)V"⟩
abbrev b_D_set : ByteArray := prog_2_method_5_code
abbrev ws_D_set : List Cond := Cond.code y_D_set b_D_set 12 none :: TB
abbrev y_D_spread : MethodName := ⟨R_D, "spread", "(III)V"⟩
abbrev b_D_spread : ByteArray := prog_2_method_6_code
abbrev ws_D_spread : List Cond := Cond.code y_D_spread b_D_spread 7 none :: TB
abbrev y_E_init : MethodName := ⟨R_E, "<init>", "(LInodeVolumes$Disk;LInodeVolumes$Layout;)V"⟩
abbrev b_E_init : ByteArray := prog_3_method_1_code
abbrev ws_E_init : List Cond := Cond.code y_E_init b_E_init 3 none :: TB
abbrev y_E_advance : MethodName := ⟨R_E, "advance", "()V"⟩
abbrev b_E_advance : ByteArray := prog_3_method_4_code
abbrev ws_E_advance : List Cond := Cond.code y_E_advance b_E_advance 1 none :: TB
abbrev y_E_fits : MethodName := ⟨R_E, "fits", "()Z"⟩
abbrev b_E_fits : ByteArray := prog_3_method_14_code
abbrev ws_E_fits : List Cond := Cond.code y_E_fits b_E_fits 2 (some .boolean) :: TB
abbrev y_E_hasInode : MethodName := ⟨R_E, "hasInode", "()Z"⟩
abbrev b_E_hasInode : ByteArray := prog_3_method_7_code
abbrev ws_E_hasInode : List Cond := Cond.code y_E_hasInode b_E_hasInode 1 (some .boolean) :: TB
abbrev y_E_hasName : MethodName := ⟨R_E, "hasName", "()Z"⟩
abbrev b_E_hasName : ByteArray := prog_3_method_15_code
abbrev ws_E_hasName : List Cond := Cond.code y_E_hasName b_E_hasName 5 (some .boolean) :: TB
abbrev y_E_inode : MethodName := ⟨R_E, "inode", "()I"⟩
abbrev b_E_inode : ByteArray := prog_3_method_6_code
abbrev ws_E_inode : List Cond := Cond.code y_E_inode b_E_inode 1 (some .int) :: TB
abbrev y_E_isEmpty : MethodName := ⟨R_E, "isEmpty", "()Z"⟩
abbrev b_E_isEmpty : ByteArray := prog_3_method_12_code
abbrev ws_E_isEmpty : List Cond := Cond.code y_E_isEmpty b_E_isEmpty 1 (some .boolean) :: TB
abbrev y_E_isItem : MethodName := ⟨R_E, "isItem", "()Z"⟩
abbrev b_E_isItem : ByteArray := prog_3_method_13_code
abbrev ws_E_isItem : List Cond := Cond.code y_E_isItem b_E_isItem 1 (some .boolean) :: TB
abbrev y_E_isOn : MethodName := ⟨R_E, "isOn", "()Z"⟩
abbrev b_E_isOn : ByteArray := prog_3_method_3_code
abbrev ws_E_isOn : List Cond := Cond.code y_E_isOn b_E_isOn 1 (some .boolean) :: TB
abbrev y_E_isOneDot : MethodName := ⟨R_E, "isOneDot", "()Z"⟩
abbrev b_E_isOneDot : ByteArray := prog_3_method_16_code
abbrev ws_E_isOneDot : List Cond := Cond.code y_E_isOneDot b_E_isOneDot 1 (some .boolean) :: TB
abbrev y_E_isTwoDots : MethodName := ⟨R_E, "isTwoDots", "()Z"⟩
abbrev b_E_isTwoDots : ByteArray := prog_3_method_17_code
abbrev ws_E_isTwoDots : List Cond := Cond.code y_E_isTwoDots b_E_isTwoDots 1 (some .boolean) :: TB
abbrev y_E_length : MethodName := ⟨R_E, "length", "()I"⟩
abbrev b_E_length : ByteArray := prog_3_method_8_code
abbrev ws_E_length : List Cond := Cond.code y_E_length b_E_length 1 (some .int) :: TB
abbrev y_E_mark : MethodName := ⟨R_E, "mark", "()I"⟩
abbrev b_E_mark : ByteArray := prog_3_method_10_code
abbrev ws_E_mark : List Cond := Cond.code y_E_mark b_E_mark 1 (some .int) :: TB
abbrev y_E_nameByte : MethodName := ⟨R_E, "nameByte", "(I)I"⟩
abbrev b_E_nameByte : ByteArray := prog_3_method_11_code
abbrev ws_E_nameByte : List Cond := Cond.code y_E_nameByte b_E_nameByte 2 (some .int) :: TB
abbrev y_E_nameLength : MethodName := ⟨R_E, "nameLength", "()I"⟩
abbrev b_E_nameLength : ByteArray := prog_3_method_9_code
abbrev ws_E_nameLength : List Cond := Cond.code y_E_nameLength b_E_nameLength 1 (some .int) :: TB
abbrev y_E_order : MethodName := ⟨R_E, "order", "()I"⟩
abbrev b_E_order : ByteArray := prog_3_method_5_code
abbrev ws_E_order : List Cond := Cond.code y_E_order b_E_order 1 (some .int) :: TB
abbrev y_E_start : MethodName := ⟨R_E, "start", "(I)V"⟩
abbrev b_E_start : ByteArray := prog_3_method_2_code
abbrev ws_E_start : List Cond := Cond.code y_E_start b_E_start 2 none :: TB
abbrev y_J_fill : MethodName := ⟨R_J, "fill", "([II)V"⟩
abbrev b_J_fill : ByteArray := prog_16_method_103_code
abbrev ws_J_fill : List Cond := Cond.code y_J_fill b_J_fill 4 none :: TB
abbrev y_L_init : MethodName := ⟨R_L, "<init>", "(LInodeVolumes$Disk;)V"⟩
abbrev b_L_init : ByteArray := prog_4_method_1_code
abbrev ws_L_init : List Cond := Cond.code y_L_init b_L_init 2 none :: TB
abbrev y_L_blockMap : MethodName := ⟨R_L, "blockMap", "(I)J"⟩
abbrev b_L_blockMap : ByteArray := prog_4_method_11_code
abbrev ws_L_blockMap : List Cond := Cond.code y_L_blockMap b_L_blockMap 2 (some .long) :: TB
abbrev y_L_blockOf : MethodName := ⟨R_L, "blockOf", "(II)J"⟩
abbrev b_L_blockOf : ByteArray := prog_4_method_21_code
abbrev ws_L_blockOf : List Cond := Cond.code y_L_blockOf b_L_blockOf 10 (some .long) :: TB
abbrev y_L_blocksFor : MethodName := ⟨R_L, "blocksFor", "(J)I"⟩
abbrev b_L_blocksFor : ByteArray := prog_4_method_20_code
abbrev ws_L_blocksFor : List Cond := Cond.code y_L_blocksFor b_L_blocksFor 3 (some .int) :: TB
abbrev y_L_blocksOf : MethodName := ⟨R_L, "blocksOf", "(I)I"⟩
abbrev b_L_blocksOf : ByteArray := prog_4_method_9_code
abbrev ws_L_blocksOf : List Cond := Cond.code y_L_blocksOf b_L_blocksOf 2 (some .int) :: TB
abbrev y_L_described : MethodName := ⟨R_L, "described", "(III)J"⟩
abbrev b_L_described : ByteArray := prog_4_method_10_code
abbrev ws_L_described : List Cond := Cond.code y_L_described b_L_described 4 (some .long) :: TB
abbrev y_L_field : MethodName := ⟨R_L, "field", "(III)J"⟩
abbrev b_L_field : ByteArray := prog_4_method_17_code
abbrev ws_L_field : List Cond := Cond.code y_L_field b_L_field 4 (some .long) :: TB
abbrev y_L_firstBlock : MethodName := ⟨R_L, "firstBlock", "(I)I"⟩
abbrev b_L_firstBlock : ByteArray := prog_4_method_8_code
abbrev ws_L_firstBlock : List Cond := Cond.code y_L_firstBlock b_L_firstBlock 2 (some .int) :: TB
abbrev y_L_groupBlocks : MethodName := ⟨R_L, "groupBlocks", "()I"⟩
abbrev b_L_groupBlocks : ByteArray := prog_4_method_5_code
abbrev ws_L_groupBlocks : List Cond := Cond.code y_L_groupBlocks b_L_groupBlocks 1 (some .int) :: TB
abbrev y_L_groupInodes : MethodName := ⟨R_L, "groupInodes", "()I"⟩
abbrev b_L_groupInodes : ByteArray := prog_4_method_6_code
abbrev ws_L_groupInodes : List Cond := Cond.code y_L_groupInodes b_L_groupInodes 1 (some .int) :: TB
abbrev y_L_groupOf : MethodName := ⟨R_L, "groupOf", "(I)I"⟩
abbrev b_L_groupOf : ByteArray := prog_4_method_13_code
abbrev ws_L_groupOf : List Cond := Cond.code y_L_groupOf b_L_groupOf 2 (some .int) :: TB
abbrev y_L_groups : MethodName := ⟨R_L, "groups", "()I"⟩
abbrev b_L_groups : ByteArray := prog_4_method_4_code
abbrev ws_L_groups : List Cond := Cond.code y_L_groups b_L_groups 1 (some .int) :: TB
abbrev y_L_inodeMap : MethodName := ⟨R_L, "inodeMap", "(I)J"⟩
abbrev b_L_inodeMap : ByteArray := prog_4_method_12_code
abbrev ws_L_inodeMap : List Cond := Cond.code y_L_inodeMap b_L_inodeMap 2 (some .long) :: TB
abbrev y_L_inodePlace : MethodName := ⟨R_L, "inodePlace", "(I)J"⟩
abbrev b_L_inodePlace : ByteArray := prog_4_method_16_code
abbrev ws_L_inodePlace : List Cond := Cond.code y_L_inodePlace b_L_inodePlace 3 (some .long) :: TB
abbrev y_L_inodes : MethodName := ⟨R_L, "inodes", "()I"⟩
abbrev b_L_inodes : ByteArray := prog_4_method_7_code
abbrev ws_L_inodes : List Cond := Cond.code y_L_inodes b_L_inodes 1 (some .int) :: TB
abbrev y_L_isInode : MethodName := ⟨R_L, "isInode", "(J)Z"⟩
abbrev b_L_isInode : ByteArray := prog_4_method_14_code
abbrev ws_L_isInode : List Cond := Cond.code y_L_isInode b_L_isInode 3 (some .boolean) :: TB
abbrev y_L_isUsed : MethodName := ⟨R_L, "isUsed", "(I)Z"⟩
abbrev b_L_isUsed : ByteArray := prog_4_method_15_code
abbrev ws_L_isUsed : List Cond := Cond.code y_L_isUsed b_L_isUsed 4 (some .boolean) :: TB
abbrev y_L_readGroups : MethodName := ⟨R_L, "readGroups", "()Z"⟩
abbrev b_L_readGroups : ByteArray := prog_4_method_2_code
abbrev ws_L_readGroups : List Cond := Cond.code y_L_readGroups b_L_readGroups 5 (some .boolean) :: TB
abbrev y_L_setMap : MethodName := ⟨R_L, "setMap", "(II)V"⟩
abbrev b_L_setMap : ByteArray := prog_4_method_3_code
abbrev ws_L_setMap : List Cond := Cond.code y_L_setMap b_L_setMap 3 none :: TB
abbrev y_L_sizeOf : MethodName := ⟨R_L, "sizeOf", "(I)J"⟩
abbrev b_L_sizeOf : ByteArray := prog_4_method_19_code
abbrev ws_L_sizeOf : List Cond := Cond.code y_L_sizeOf b_L_sizeOf 2 (some .long) :: TB
abbrev y_L_typeOf : MethodName := ⟨R_L, "typeOf", "(I)I"⟩
abbrev b_L_typeOf : ByteArray := prog_4_method_18_code
abbrev ws_L_typeOf : List Cond := Cond.code y_L_typeOf b_L_typeOf 2 (some .int) :: TB
abbrev y_M_init : MethodName := ⟨R_M, "<init>", "(I)V"⟩
abbrev b_M_init : ByteArray := prog_7_method_1_code
abbrev ws_M_init : List Cond := Cond.code y_M_init b_M_init 2 none :: TB
abbrev y_M_about : MethodName := ⟨R_M, "about", "(II)J"⟩
abbrev b_M_about : ByteArray := prog_7_method_48_code
abbrev ws_M_about : List Cond := Cond.code y_M_about b_M_about 4 (some .long) :: TB
abbrev y_M_badCopies : MethodName := ⟨R_M, "badCopies", "()Z"⟩
abbrev b_M_badCopies : ByteArray := prog_7_method_16_code
abbrev ws_M_badCopies : List Cond := Cond.code y_M_badCopies b_M_badCopies 4 (some .boolean) :: TB
abbrev y_M_badCounts : MethodName := ⟨R_M, "badCounts", "()Z"⟩
abbrev b_M_badCounts : ByteArray := prog_7_method_39_code
abbrev ws_M_badCounts : List Cond := Cond.code y_M_badCounts b_M_badCounts 12 (some .boolean) :: TB
abbrev y_M_badEntries : MethodName := ⟨R_M, "badEntries", "(I)Z"⟩
abbrev b_M_badEntries : ByteArray := prog_7_method_33_code
abbrev ws_M_badEntries : List Cond := Cond.code y_M_badEntries b_M_badEntries 7 (some .boolean) :: TB
abbrev y_M_badHead : MethodName := ⟨R_M, "badHead", "()Z"⟩
abbrev b_M_badHead : ByteArray := prog_7_method_15_code
abbrev ws_M_badHead : List Cond := Cond.code y_M_badHead b_M_badHead 7 (some .boolean) :: TB
abbrev y_M_badInodes : MethodName := ⟨R_M, "badInodes", "()Z"⟩
abbrev b_M_badInodes : ByteArray := prog_7_method_38_code
abbrev ws_M_badInodes : List Cond := Cond.code y_M_badInodes b_M_badInodes 3 (some .boolean) :: TB
abbrev y_M_badLinks : MethodName := ⟨R_M, "badLinks", "()Z"⟩
abbrev b_M_badLinks : ByteArray := prog_7_method_37_code
abbrev ws_M_badLinks : List Cond := Cond.code y_M_badLinks b_M_badLinks 3 (some .boolean) :: TB
abbrev y_M_badMaps : MethodName := ⟨R_M, "badMaps", "()Z"⟩
abbrev b_M_badMaps : ByteArray := prog_7_method_18_code
abbrev ws_M_badMaps : List Cond := Cond.code y_M_badMaps b_M_badMaps 7 (some .boolean) :: TB
abbrev y_M_begin : MethodName := ⟨R_M, "begin", "(I)I"⟩
abbrev b_M_begin : ByteArray := prog_7_method_13_code
abbrev ws_M_begin : List Cond := Cond.code y_M_begin b_M_begin 2 (some .int) :: TB
abbrev y_M_bit : MethodName := ⟨R_M, "bit", "(II)Z"⟩
abbrev b_M_bit : ByteArray := prog_7_method_20_code
abbrev ws_M_bit : List Cond := Cond.code y_M_bit b_M_bit 3 (some .boolean) :: TB
abbrev y_M_blockOf : MethodName := ⟨R_M, "blockOf", "(II)J"⟩
abbrev b_M_blockOf : ByteArray := prog_7_method_27_code
abbrev ws_M_blockOf : List Cond := Cond.code y_M_blockOf b_M_blockOf 4 (some .long) :: TB
abbrev y_M_byteAt : MethodName := ⟨R_M, "byteAt", "(I)I"⟩
abbrev b_M_byteAt : ByteArray := prog_7_method_12_code
abbrev ws_M_byteAt : List Cond := Cond.code y_M_byteAt b_M_byteAt 2 (some .int) :: TB
abbrev y_M_changed : MethodName := ⟨R_M, "changed", "()Z"⟩
abbrev b_M_changed : ByteArray := prog_7_method_8_code
abbrev ws_M_changed : List Cond := Cond.code y_M_changed b_M_changed 1 (some .boolean) :: TB
abbrev y_M_comes : MethodName := ⟨R_M, "comes", "(II)V"⟩
abbrev b_M_comes : ByteArray := prog_7_method_35_code
abbrev ws_M_comes : List Cond := Cond.code y_M_comes b_M_comes 3 none :: TB
abbrev y_M_content : MethodName := ⟨R_M, "content", "(II)I"⟩
abbrev b_M_content : ByteArray := prog_7_method_49_code
abbrev ws_M_content : List Cond := Cond.code y_M_content b_M_content 4 (some .int) :: TB
abbrev y_M_copy : MethodName := ⟨R_M, "copy", "(III)Z"⟩
abbrev b_M_copy : ByteArray := prog_7_method_11_code
abbrev ws_M_copy : List Cond := Cond.code y_M_copy b_M_copy 6 (some .boolean) :: TB
abbrev y_M_count : MethodName := ⟨R_M, "count", "()I"⟩
abbrev b_M_count : ByteArray := prog_7_method_44_code
abbrev ws_M_count : List Cond := Cond.code y_M_count b_M_count 2 (some .int) :: TB
abbrev y_M_enter : MethodName := ⟨R_M, "enter", "(I)I"⟩
abbrev b_M_enter : ByteArray := prog_7_method_50_code
abbrev ws_M_enter : List Cond := Cond.code y_M_enter b_M_enter 2 (some .int) :: TB
abbrev y_M_fails : MethodName := ⟨R_M, "fails", "(ZI)Z"⟩
abbrev b_M_fails : ByteArray := prog_7_method_3_code
abbrev ws_M_fails : List Cond := Cond.code y_M_fails b_M_fails 3 (some .boolean) :: TB
abbrev y_M_fault : MethodName := ⟨R_M, "fault", "()I"⟩
abbrev b_M_fault : ByteArray := prog_7_method_42_code
abbrev ws_M_fault : List Cond := Cond.code y_M_fault b_M_fault 1 (some .int) :: TB
abbrev y_M_fill : MethodName := ⟨R_M, "fill", "(III)Z"⟩
abbrev b_M_fill : ByteArray := prog_7_method_10_code
abbrev ws_M_fill : List Cond := Cond.code y_M_fill b_M_fill 5 (some .boolean) :: TB
abbrev y_M_finds : MethodName := ⟨R_M, "finds", "(II)Z"⟩
abbrev b_M_finds : ByteArray := prog_7_method_34_code
abbrev ws_M_finds : List Cond := Cond.code y_M_finds b_M_finds 8 (some .boolean) :: TB
abbrev y_M_firstFault : MethodName := ⟨R_M, "firstFault", "()I"⟩
abbrev b_M_firstFault : ByteArray := prog_7_method_40_code
abbrev ws_M_firstFault : List Cond := Cond.code y_M_firstFault b_M_firstFault 2 (some .int) :: TB
abbrev y_M_fixes : MethodName := ⟨R_M, "fixes", "(I)Z"⟩
abbrev b_M_fixes : ByteArray := prog_7_method_17_code
abbrev ws_M_fixes : List Cond := Cond.code y_M_fixes b_M_fixes 3 (some .boolean) :: TB
abbrev y_M_four : MethodName := ⟨R_M, "four", "(I)J"⟩
abbrev b_M_four : ByteArray := prog_7_method_6_code
abbrev ws_M_four : List Cond := Cond.code y_M_four b_M_four 2 (some .long) :: TB
abbrev y_M_inodeAt : MethodName := ⟨R_M, "inodeAt", "(I)I"⟩
abbrev b_M_inodeAt : ByteArray := prog_7_method_19_code
abbrev ws_M_inodeAt : List Cond := Cond.code y_M_inodeAt b_M_inodeAt 2 (some .int) :: TB
abbrev y_M_isDots : MethodName := ⟨R_M, "isDots", "(II)Z"⟩
abbrev b_M_isDots : ByteArray := prog_7_method_31_code
abbrev ws_M_isDots : List Cond := Cond.code y_M_isDots b_M_isDots 5 (some .boolean) :: TB
abbrev y_M_isEntry : MethodName := ⟨R_M, "isEntry", "(IIII)Z"⟩
abbrev b_M_isEntry : ByteArray := prog_7_method_32_code
abbrev ws_M_isEntry : List Cond := Cond.code y_M_isEntry b_M_isEntry 11 (some .boolean) :: TB
abbrev y_M_isThere : MethodName := ⟨R_M, "isThere", "(JJ)Z"⟩
abbrev b_M_isThere : ByteArray := prog_7_method_7_code
abbrev ws_M_isThere : List Cond := Cond.code y_M_isThere b_M_isThere 5 (some .boolean) :: TB
abbrev y_M_isUsed : MethodName := ⟨R_M, "isUsed", "(I)Z"⟩
abbrev b_M_isUsed : ByteArray := prog_7_method_21_code
abbrev ws_M_isUsed : List Cond := Cond.code y_M_isUsed b_M_isUsed 2 (some .boolean) :: TB
abbrev y_M_isWhole : MethodName := ⟨R_M, "isWhole", "(I)Z"⟩
abbrev b_M_isWhole : ByteArray := prog_7_method_28_code
abbrev ws_M_isWhole : List Cond := Cond.code y_M_isWhole b_M_isWhole 7 (some .boolean) :: TB
abbrev y_M_items : MethodName := ⟨R_M, "items", "()I"⟩
abbrev b_M_items : ByteArray := prog_7_method_45_code
abbrev ws_M_items : List Cond := Cond.code y_M_items b_M_items 1 (some .int) :: TB
abbrev y_M_lengthAt : MethodName := ⟨R_M, "lengthAt", "(I)I"⟩
abbrev b_M_lengthAt : ByteArray := prog_7_method_29_code
abbrev ws_M_lengthAt : List Cond := Cond.code y_M_lengthAt b_M_lengthAt 2 (some .int) :: TB
abbrev y_M_letter : MethodName := ⟨R_M, "letter", "(II)I"⟩
abbrev b_M_letter : ByteArray := prog_7_method_47_code
abbrev ws_M_letter : List Cond := Cond.code y_M_letter b_M_letter 3 (some .int) :: TB
abbrev y_M_look : MethodName := ⟨R_M, "look", "()V"⟩
abbrev b_M_look : ByteArray := prog_7_method_41_code
abbrev ws_M_look : List Cond := Cond.code y_M_look b_M_look 1 none :: TB
abbrev y_M_nameSize : MethodName := ⟨R_M, "nameSize", "(I)I"⟩
abbrev b_M_nameSize : ByteArray := prog_7_method_30_code
abbrev ws_M_nameSize : List Cond := Cond.code y_M_nameSize b_M_nameSize 2 (some .int) :: TB
abbrev y_M_no : MethodName := ⟨R_M, "no", "(I)Z"⟩
abbrev b_M_no : ByteArray := prog_7_method_46_code
abbrev ws_M_no : List Cond := Cond.code y_M_no b_M_no 2 (some .boolean) :: TB
abbrev y_M_none : MethodName := ⟨R_M, "none", "()Z"⟩
abbrev b_M_none : ByteArray := prog_7_method_43_code
abbrev ws_M_none : List Cond := Cond.code y_M_none b_M_none 1 (some .boolean) :: TB
abbrev y_M_one : MethodName := ⟨R_M, "one", "(I)I"⟩
abbrev b_M_one : ByteArray := prog_7_method_4_code
abbrev ws_M_one : List Cond := Cond.code y_M_one b_M_one 2 (some .int) :: TB
abbrev y_M_parts : MethodName := ⟨R_M, "parts", "(II)I"⟩
abbrev b_M_parts : ByteArray := prog_7_method_25_code
abbrev ws_M_parts : List Cond := Cond.code y_M_parts b_M_parts 2 (some .int) :: TB
abbrev y_M_pointer : MethodName := ⟨R_M, "pointer", "(II)J"⟩
abbrev b_M_pointer : ByteArray := prog_7_method_24_code
abbrev ws_M_pointer : List Cond := Cond.code y_M_pointer b_M_pointer 3 (some .long) :: TB
abbrev y_M_put : MethodName := ⟨R_M, "put", "(IIJ)Z"⟩
abbrev b_M_put : ByteArray := prog_7_method_9_code
abbrev ws_M_put : List Cond := Cond.code y_M_put b_M_put 6 (some .boolean) :: TB
abbrev y_M_sizeOf : MethodName := ⟨R_M, "sizeOf", "(I)I"⟩
abbrev b_M_sizeOf : ByteArray := prog_7_method_14_code
abbrev ws_M_sizeOf : List Cond := Cond.code y_M_sizeOf b_M_sizeOf 2 (some .int) :: TB
abbrev y_M_sizeOfInode : MethodName := ⟨R_M, "sizeOfInode", "(I)J"⟩
abbrev b_M_sizeOfInode : ByteArray := prog_7_method_23_code
abbrev ws_M_sizeOfInode : List Cond := Cond.code y_M_sizeOfInode b_M_sizeOfInode 2 (some .long) :: TB
abbrev y_M_takes : MethodName := ⟨R_M, "takes", "(J)Z"⟩
abbrev b_M_takes : ByteArray := prog_7_method_26_code
abbrev ws_M_takes : List Cond := Cond.code y_M_takes b_M_takes 3 (some .boolean) :: TB
abbrev y_M_thrown : MethodName := ⟨R_M, "thrown", "()I"⟩
abbrev b_M_thrown : ByteArray := prog_7_method_2_code
abbrev ws_M_thrown : List Cond := Cond.code y_M_thrown b_M_thrown 1 (some .int) :: TB
abbrev y_M_tree : MethodName := ⟨R_M, "tree", "()I"⟩
abbrev b_M_tree : ByteArray := prog_7_method_36_code
abbrev ws_M_tree : List Cond := Cond.code y_M_tree b_M_tree 5 (some .int) :: TB
abbrev y_M_two : MethodName := ⟨R_M, "two", "(I)I"⟩
abbrev b_M_two : ByteArray := prog_7_method_5_code
abbrev ws_M_two : List Cond := Cond.code y_M_two b_M_two 2 (some .int) :: TB
abbrev y_M_typeOf : MethodName := ⟨R_M, "typeOf", "(I)I"⟩
abbrev b_M_typeOf : ByteArray := prog_7_method_22_code
abbrev ws_M_typeOf : List Cond := Cond.code y_M_typeOf b_M_typeOf 2 (some .int) :: TB
abbrev y_M_up : MethodName := ⟨R_M, "up", "()Z"⟩
abbrev b_M_up : ByteArray := prog_7_method_51_code
abbrev ws_M_up : List Cond := Cond.code y_M_up b_M_up 1 (some .boolean) :: TB
abbrev y_S_init : MethodName := ⟨R_S, "<init>", "(LInodeVolumes$Disk;LInodeVolumes$Layout;LInodeVolumes$Entries;)V"⟩
abbrev b_S_init : ByteArray := prog_5_method_1_code
abbrev ws_S_init : List Cond := Cond.code y_S_init b_S_init 5 none :: TB
abbrev y_S_blockMapStands : MethodName := ⟨R_S, "blockMapStands", "(I)Z"⟩
abbrev b_S_blockMapStands : ByteArray := prog_5_method_25_code
abbrev ws_S_blockMapStands : List Cond := Cond.code y_S_blockMapStands b_S_blockMapStands 4 (some .boolean) :: TB
abbrev y_S_copiesStand : MethodName := ⟨R_S, "copiesStand", "()Z"⟩
abbrev b_S_copiesStand : ByteArray := prog_5_method_6_code
abbrev ws_S_copiesStand : List Cond := Cond.code y_S_copiesStand b_S_copiesStand 2 (some .boolean) :: TB
abbrev y_S_directories : MethodName := ⟨R_S, "directories", "(I)I"⟩
abbrev b_S_directories : ByteArray := prog_5_method_28_code
abbrev ws_S_directories : List Cond := Cond.code y_S_directories b_S_directories 4 (some .int) :: TB
abbrev y_S_entriesStand : MethodName := ⟨R_S, "entriesStand", "(II)Z"⟩
abbrev b_S_entriesStand : ByteArray := prog_5_method_16_code
abbrev ws_S_entriesStand : List Cond := Cond.code y_S_entriesStand b_S_entriesStand 6 (some .boolean) :: TB
abbrev y_S_entryStands : MethodName := ⟨R_S, "entryStands", "(II)Z"⟩
abbrev b_S_entryStands : ByteArray := prog_5_method_17_code
abbrev ws_S_entryStands : List Cond := Cond.code y_S_entryStands b_S_entryStands 5 (some .boolean) :: TB
abbrev y_S_firstFault : MethodName := ⟨R_S, "firstFault", "()I"⟩
abbrev b_S_firstFault : ByteArray := prog_5_method_3_code
abbrev ws_S_firstFault : List Cond := Cond.code y_S_firstFault b_S_firstFault 1 (some .int) :: TB
abbrev y_S_fix : MethodName := ⟨R_S, "fix", "(II)V"⟩
abbrev b_S_fix : ByteArray := prog_5_method_9_code
abbrev ws_S_fix : List Cond := Cond.code y_S_fix b_S_fix 4 none :: TB
abbrev y_S_forget : MethodName := ⟨R_S, "forget", "()V"⟩
abbrev b_S_forget : ByteArray := prog_5_method_2_code
abbrev ws_S_forget : List Cond := Cond.code y_S_forget b_S_forget 1 none :: TB
abbrev y_S_freeBlocks : MethodName := ⟨R_S, "freeBlocks", "(I)I"⟩
abbrev b_S_freeBlocks : ByteArray := prog_5_method_26_code
abbrev ws_S_freeBlocks : List Cond := Cond.code y_S_freeBlocks b_S_freeBlocks 5 (some .int) :: TB
abbrev y_S_freeInodes : MethodName := ⟨R_S, "freeInodes", "(I)I"⟩
abbrev b_S_freeInodes : ByteArray := prog_5_method_27_code
abbrev ws_S_freeInodes : List Cond := Cond.code y_S_freeInodes b_S_freeInodes 4 (some .int) :: TB
abbrev y_S_groupsStand : MethodName := ⟨R_S, "groupsStand", "()Z"⟩
abbrev b_S_groupsStand : ByteArray := prog_5_method_8_code
abbrev ws_S_groupsStand : List Cond := Cond.code y_S_groupsStand b_S_groupsStand 7 (some .boolean) :: TB
abbrev y_S_hasCopies : MethodName := ⟨R_S, "hasCopies", "(I)Z"⟩
abbrev b_S_hasCopies : ByteArray := prog_5_method_7_code
abbrev ws_S_hasCopies : List Cond := Cond.code y_S_hasCopies b_S_hasCopies 7 (some .boolean) :: TB
abbrev y_S_inodesStand : MethodName := ⟨R_S, "inodesStand", "()Z"⟩
abbrev b_S_inodesStand : ByteArray := prog_5_method_21_code
abbrev ws_S_inodesStand : List Cond := Cond.code y_S_inodesStand b_S_inodesStand 3 (some .boolean) :: TB
abbrev y_S_isBlank : MethodName := ⟨R_S, "isBlank", "(I)Z"⟩
abbrev b_S_isBlank : ByteArray := prog_5_method_22_code
abbrev ws_S_isBlank : List Cond := Cond.code y_S_isBlank b_S_isBlank 5 (some .boolean) :: TB
abbrev y_S_isKnown : MethodName := ⟨R_S, "isKnown", "(I)Z"⟩
abbrev b_S_isKnown : ByteArray := prog_5_method_12_code
abbrev ws_S_isKnown : List Cond := Cond.code y_S_isKnown b_S_isKnown 2 (some .boolean) :: TB
abbrev y_S_isTaken : MethodName := ⟨R_S, "isTaken", "(I)Z"⟩
abbrev b_S_isTaken : ByteArray := prog_5_method_24_code
abbrev ws_S_isTaken : List Cond := Cond.code y_S_isTaken b_S_isTaken 2 (some .boolean) :: TB
abbrev y_S_itemsComeUp : MethodName := ⟨R_S, "itemsComeUp", "(I)Z"⟩
abbrev b_S_itemsComeUp : ByteArray := prog_5_method_18_code
abbrev ws_S_itemsComeUp : List Cond := Cond.code y_S_itemsComeUp b_S_itemsComeUp 5 (some .boolean) :: TB
abbrev y_S_lateFault : MethodName := ⟨R_S, "lateFault", "()I"⟩
abbrev b_S_lateFault : ByteArray := prog_5_method_19_code
abbrev ws_S_lateFault : List Cond := Cond.code y_S_lateFault b_S_lateFault 1 (some .int) :: TB
abbrev y_S_linksStand : MethodName := ⟨R_S, "linksStand", "()Z"⟩
abbrev b_S_linksStand : ByteArray := prog_5_method_20_code
abbrev ws_S_linksStand : List Cond := Cond.code y_S_linksStand b_S_linksStand 3 (some .boolean) :: TB
abbrev y_S_mapsStand : MethodName := ⟨R_S, "mapsStand", "()Z"⟩
abbrev b_S_mapsStand : ByteArray := prog_5_method_23_code
abbrev ws_S_mapsStand : List Cond := Cond.code y_S_mapsStand b_S_mapsStand 6 (some .boolean) :: TB
abbrev y_S_spareAreZero : MethodName := ⟨R_S, "spareAreZero", "(II)Z"⟩
abbrev b_S_spareAreZero : ByteArray := prog_5_method_14_code
abbrev ws_S_spareAreZero : List Cond := Cond.code y_S_spareAreZero b_S_spareAreZero 6 (some .boolean) :: TB
abbrev y_S_standInLine : MethodName := ⟨R_S, "standInLine", "(II)V"⟩
abbrev b_S_standInLine : ByteArray := prog_5_method_11_code
abbrev ws_S_standInLine : List Cond := Cond.code y_S_standInLine b_S_standInLine 3 none :: TB
abbrev y_S_superblockHas : MethodName := ⟨R_S, "superblockHas", "(IIJ)Z"⟩
abbrev b_S_superblockHas : ByteArray := prog_5_method_5_code
abbrev ws_S_superblockHas : List Cond := Cond.code y_S_superblockHas b_S_superblockHas 5 (some .boolean) :: TB
abbrev y_S_superblockStands : MethodName := ⟨R_S, "superblockStands", "()Z"⟩
abbrev b_S_superblockStands : ByteArray := prog_5_method_4_code
abbrev ws_S_superblockStands : List Cond := Cond.code y_S_superblockStands b_S_superblockStands 1 (some .boolean) :: TB
abbrev y_S_take : MethodName := ⟨R_S, "take", "(J)Z"⟩
abbrev b_S_take : ByteArray := prog_5_method_15_code
abbrev ws_S_take : List Cond := Cond.code y_S_take b_S_take 4 (some .boolean) :: TB
abbrev y_S_takeWhole : MethodName := ⟨R_S, "takeWhole", "(I)Z"⟩
abbrev b_S_takeWhole : ByteArray := prog_5_method_13_code
abbrev ws_S_takeWhole : List Cond := Cond.code y_S_takeWhole b_S_takeWhole 10 (some .boolean) :: TB
abbrev y_S_treeFault : MethodName := ⟨R_S, "treeFault", "()I"⟩
abbrev b_S_treeFault : ByteArray := prog_5_method_10_code
abbrev ws_S_treeFault : List Cond := Cond.code y_S_treeFault b_S_treeFault 2 (some .int) :: TB
abbrev y_V_init : MethodName := ⟨R_V, "<init>", "(I)V"⟩
abbrev b_V_init : ByteArray := prog_1_method_1_code
abbrev ws_V_init : List Cond := Cond.code y_V_init b_V_init 2 none :: TB
abbrev y_V_about : MethodName := ⟨R_V, "about", "(II)J"⟩
abbrev b_V_about : ByteArray := prog_1_method_9_code
abbrev ws_V_about : List Cond := Cond.code y_V_about b_V_about 4 (some .long) :: TB
abbrev y_V_beginAgain : MethodName := ⟨R_V, "beginAgain", "()V"⟩
abbrev b_V_beginAgain : ByteArray := prog_1_method_13_code
abbrev ws_V_beginAgain : List Cond := Cond.code y_V_beginAgain b_V_beginAgain 1 none :: TB
abbrev y_V_byteAt : MethodName := ⟨R_V, "byteAt", "(I)I"⟩
abbrev b_V_byteAt : ByteArray := prog_1_method_5_code
abbrev ws_V_byteAt : List Cond := Cond.code y_V_byteAt b_V_byteAt 2 (some .int) :: TB
abbrev y_V_content : MethodName := ⟨R_V, "content", "(II)I"⟩
abbrev b_V_content : ByteArray := prog_1_method_10_code
abbrev ws_V_content : List Cond := Cond.code y_V_content b_V_content 4 (some .int) :: TB
abbrev y_V_copy : MethodName := ⟨R_V, "copy", "(III)Z"⟩
abbrev b_V_copy : ByteArray := prog_1_method_4_code
abbrev ws_V_copy : List Cond := Cond.code y_V_copy b_V_copy 4 (some .boolean) :: TB
abbrev y_V_countItems : MethodName := ⟨R_V, "countItems", "()I"⟩
abbrev b_V_countItems : ByteArray := prog_1_method_14_code
abbrev ws_V_countItems : List Cond := Cond.code y_V_countItems b_V_countItems 3 (some .int) :: TB
abbrev y_V_enter : MethodName := ⟨R_V, "enter", "(I)I"⟩
abbrev b_V_enter : ByteArray := prog_1_method_11_code
abbrev ws_V_enter : List Cond := Cond.code y_V_enter b_V_enter 3 (some .int) :: TB
abbrev y_V_fault : MethodName := ⟨R_V, "fault", "()I"⟩
abbrev b_V_fault : ByteArray := prog_1_method_6_code
abbrev ws_V_fault : List Cond := Cond.code y_V_fault b_V_fault 1 (some .int) :: TB
abbrev y_V_fill : MethodName := ⟨R_V, "fill", "(III)Z"⟩
abbrev b_V_fill : ByteArray := prog_1_method_3_code
abbrev ws_V_fill : List Cond := Cond.code y_V_fill b_V_fill 4 (some .boolean) :: TB
abbrev y_V_items : MethodName := ⟨R_V, "items", "()I"⟩
abbrev b_V_items : ByteArray := prog_1_method_7_code
abbrev ws_V_items : List Cond := Cond.code y_V_items b_V_items 1 (some .int) :: TB
abbrev y_V_lastBlock : MethodName := ⟨R_V, "lastBlock", "(I)J"⟩
abbrev b_V_lastBlock : ByteArray := prog_1_method_16_code
abbrev ws_V_lastBlock : List Cond := Cond.code y_V_lastBlock b_V_lastBlock 3 (some .long) :: TB
abbrev y_V_letter : MethodName := ⟨R_V, "letter", "(II)I"⟩
abbrev b_V_letter : ByteArray := prog_1_method_8_code
abbrev ws_V_letter : List Cond := Cond.code y_V_letter b_V_letter 3 (some .int) :: TB
abbrev y_V_put : MethodName := ⟨R_V, "put", "(IIJ)Z"⟩
abbrev b_V_put : ByteArray := prog_1_method_2_code
abbrev ws_V_put : List Cond := Cond.code y_V_put b_V_put 5 (some .boolean) :: TB
abbrev y_V_seekItem : MethodName := ⟨R_V, "seekItem", "(I)V"⟩
abbrev b_V_seekItem : ByteArray := prog_1_method_15_code
abbrev ws_V_seekItem : List Cond := Cond.code y_V_seekItem b_V_seekItem 4 none :: TB
abbrev y_V_up : MethodName := ⟨R_V, "up", "()Z"⟩
abbrev b_V_up : ByteArray := prog_1_method_12_code
abbrev ws_V_up : List Cond := Cond.code y_V_up b_V_up 1 (some .boolean) :: TB
def wC (h : Nat → Nat) (cI : ClassId) (cL : ClassId) (NW : Nat) (bk : Int32) (sz : Int32) (wd : Nat → Int64) (mb : Nat → Int32) (gB : Int32) (gI : Int32) (gN : Int32) (iN : Int32) (dr : Int32) (es : Int64) (of : Int64) (od : Int32) (pl : Int64) (hd : Int64) (tk : Nat → Int32) (kn : Nat → Int32) (li : Nat → Int32) (pa : Nat → Int32) (ins : Nat → Int32) (cm : Int32) (fd : Int32) (hr : Int32) : va_W := [
  (h 0, .inr (4, [.ref (h 1), .ref (h 3), .ref (h 5), .ref (h 6), .int hr])),
  (h 1, .inr (0, [.int bk, .int sz, .ref (h 2)])),
  (h 2, .inl (cL, NW, .inr (.inl wd))),
  (h 3, .inr (2, [.ref (h 1), .ref (h 4), .int gB, .int gI, .int gN, .int iN])),
  (h 4, .inl (cI, 8, .inl mb)),
  (h 5, .inr (1, [.ref (h 1), .ref (h 3), .int dr, .long es, .long of, .int od, .long pl, .long hd])),
  (h 6, .inr (3, [.ref (h 1), .ref (h 3), .ref (h 5), .ref (h 7), .ref (h 8), .ref (h 9), .ref (h 10), .ref (h 11), .int cm, .int fd])),
  (h 7, .inl (cI, 512, .inl tk)),
  (h 8, .inl (cI, 4097, .inl kn)),
  (h 9, .inl (cI, 4096, .inl li)),
  (h 10, .inl (cI, 4096, .inl pa)),
  (h 11, .inl (cI, 4096, .inl ins))]
end
section
/-! functions in Option: how a walked branch, guard or call takes the function's equation apart -/
theorem ite_t {α : Type} {c : Prop} [inst : Decidable c] {a b r : α} (hc : c) (h : (if c then a else b) = r) : a = r := by rwa [if_pos hc] at h
theorem ite_f {α : Type} {c : Prop} [inst : Decidable c] {a b r : α} (hc : ¬ c) (h : (if c then a else b) = r) : b = r := by rwa [if_neg hc] at h
theorem gd_s {α : Type} {c : Prop} [inst : Decidable c] {b : Option α} {r : α} (h : (if c then none else b) = some r) : ¬ c ∧ b = some r := by
  by_cases hc : c
  · rw [if_pos hc] at h; cases h
  · rw [if_neg hc] at h; exact ⟨hc, h⟩
theorem gp_s {α : Type} {c : Prop} [inst : Decidable c] {b : Option α} {r : α} (h : (if c then b else none) = some r) : c ∧ b = some r := by
  by_cases hc : c
  · rw [if_pos hc] at h; exact ⟨hc, h⟩
  · rw [if_neg hc] at h; cases h
def bd1 {α1 ρ : Type} (o : Option (α1)) (f : α1 → Option ρ) : Option ρ := match o with | none => none | some a1 => f a1
def bd2 {α1 α2 ρ : Type} (o : Option (α1 × α2)) (f : α1 → α2 → Option ρ) : Option ρ := match o with | none => none | some (a1, a2) => f a1 a2
def bd3 {α1 α2 α3 ρ : Type} (o : Option (α1 × α2 × α3)) (f : α1 → α2 → α3 → Option ρ) : Option ρ := match o with | none => none | some (a1, a2, a3) => f a1 a2 a3
def bd4 {α1 α2 α3 α4 ρ : Type} (o : Option (α1 × α2 × α3 × α4)) (f : α1 → α2 → α3 → α4 → Option ρ) : Option ρ := match o with | none => none | some (a1, a2, a3, a4) => f a1 a2 a3 a4
def bd5 {α1 α2 α3 α4 α5 ρ : Type} (o : Option (α1 × α2 × α3 × α4 × α5)) (f : α1 → α2 → α3 → α4 → α5 → Option ρ) : Option ρ := match o with | none => none | some (a1, a2, a3, a4, a5) => f a1 a2 a3 a4 a5
def bd6 {α1 α2 α3 α4 α5 α6 ρ : Type} (o : Option (α1 × α2 × α3 × α4 × α5 × α6)) (f : α1 → α2 → α3 → α4 → α5 → α6 → Option ρ) : Option ρ := match o with | none => none | some (a1, a2, a3, a4, a5, a6) => f a1 a2 a3 a4 a5 a6
def bd7 {α1 α2 α3 α4 α5 α6 α7 ρ : Type} (o : Option (α1 × α2 × α3 × α4 × α5 × α6 × α7)) (f : α1 → α2 → α3 → α4 → α5 → α6 → α7 → Option ρ) : Option ρ := match o with | none => none | some (a1, a2, a3, a4, a5, a6, a7) => f a1 a2 a3 a4 a5 a6 a7
def bd8 {α1 α2 α3 α4 α5 α6 α7 α8 ρ : Type} (o : Option (α1 × α2 × α3 × α4 × α5 × α6 × α7 × α8)) (f : α1 → α2 → α3 → α4 → α5 → α6 → α7 → α8 → Option ρ) : Option ρ := match o with | none => none | some (a1, a2, a3, a4, a5, a6, a7, a8) => f a1 a2 a3 a4 a5 a6 a7 a8
def bd9 {α1 α2 α3 α4 α5 α6 α7 α8 α9 ρ : Type} (o : Option (α1 × α2 × α3 × α4 × α5 × α6 × α7 × α8 × α9)) (f : α1 → α2 → α3 → α4 → α5 → α6 → α7 → α8 → α9 → Option ρ) : Option ρ := match o with | none => none | some (a1, a2, a3, a4, a5, a6, a7, a8, a9) => f a1 a2 a3 a4 a5 a6 a7 a8 a9
def bd10 {α1 α2 α3 α4 α5 α6 α7 α8 α9 α10 ρ : Type} (o : Option (α1 × α2 × α3 × α4 × α5 × α6 × α7 × α8 × α9 × α10)) (f : α1 → α2 → α3 → α4 → α5 → α6 → α7 → α8 → α9 → α10 → Option ρ) : Option ρ := match o with | none => none | some (a1, a2, a3, a4, a5, a6, a7, a8, a9, a10) => f a1 a2 a3 a4 a5 a6 a7 a8 a9 a10
def bd11 {α1 α2 α3 α4 α5 α6 α7 α8 α9 α10 α11 ρ : Type} (o : Option (α1 × α2 × α3 × α4 × α5 × α6 × α7 × α8 × α9 × α10 × α11)) (f : α1 → α2 → α3 → α4 → α5 → α6 → α7 → α8 → α9 → α10 → α11 → Option ρ) : Option ρ := match o with | none => none | some (a1, a2, a3, a4, a5, a6, a7, a8, a9, a10, a11) => f a1 a2 a3 a4 a5 a6 a7 a8 a9 a10 a11
def bd12 {α1 α2 α3 α4 α5 α6 α7 α8 α9 α10 α11 α12 ρ : Type} (o : Option (α1 × α2 × α3 × α4 × α5 × α6 × α7 × α8 × α9 × α10 × α11 × α12)) (f : α1 → α2 → α3 → α4 → α5 → α6 → α7 → α8 → α9 → α10 → α11 → α12 → Option ρ) : Option ρ := match o with | none => none | some (a1, a2, a3, a4, a5, a6, a7, a8, a9, a10, a11, a12) => f a1 a2 a3 a4 a5 a6 a7 a8 a9 a10 a11 a12
def bd13 {α1 α2 α3 α4 α5 α6 α7 α8 α9 α10 α11 α12 α13 ρ : Type} (o : Option (α1 × α2 × α3 × α4 × α5 × α6 × α7 × α8 × α9 × α10 × α11 × α12 × α13)) (f : α1 → α2 → α3 → α4 → α5 → α6 → α7 → α8 → α9 → α10 → α11 → α12 → α13 → Option ρ) : Option ρ := match o with | none => none | some (a1, a2, a3, a4, a5, a6, a7, a8, a9, a10, a11, a12, a13) => f a1 a2 a3 a4 a5 a6 a7 a8 a9 a10 a11 a12 a13
def bd14 {α1 α2 α3 α4 α5 α6 α7 α8 α9 α10 α11 α12 α13 α14 ρ : Type} (o : Option (α1 × α2 × α3 × α4 × α5 × α6 × α7 × α8 × α9 × α10 × α11 × α12 × α13 × α14)) (f : α1 → α2 → α3 → α4 → α5 → α6 → α7 → α8 → α9 → α10 → α11 → α12 → α13 → α14 → Option ρ) : Option ρ := match o with | none => none | some (a1, a2, a3, a4, a5, a6, a7, a8, a9, a10, a11, a12, a13, a14) => f a1 a2 a3 a4 a5 a6 a7 a8 a9 a10 a11 a12 a13 a14
def bd15 {α1 α2 α3 α4 α5 α6 α7 α8 α9 α10 α11 α12 α13 α14 α15 ρ : Type} (o : Option (α1 × α2 × α3 × α4 × α5 × α6 × α7 × α8 × α9 × α10 × α11 × α12 × α13 × α14 × α15)) (f : α1 → α2 → α3 → α4 → α5 → α6 → α7 → α8 → α9 → α10 → α11 → α12 → α13 → α14 → α15 → Option ρ) : Option ρ := match o with | none => none | some (a1, a2, a3, a4, a5, a6, a7, a8, a9, a10, a11, a12, a13, a14, a15) => f a1 a2 a3 a4 a5 a6 a7 a8 a9 a10 a11 a12 a13 a14 a15
def bd16 {α1 α2 α3 α4 α5 α6 α7 α8 α9 α10 α11 α12 α13 α14 α15 α16 ρ : Type} (o : Option (α1 × α2 × α3 × α4 × α5 × α6 × α7 × α8 × α9 × α10 × α11 × α12 × α13 × α14 × α15 × α16)) (f : α1 → α2 → α3 → α4 → α5 → α6 → α7 → α8 → α9 → α10 → α11 → α12 → α13 → α14 → α15 → α16 → Option ρ) : Option ρ := match o with | none => none | some (a1, a2, a3, a4, a5, a6, a7, a8, a9, a10, a11, a12, a13, a14, a15, a16) => f a1 a2 a3 a4 a5 a6 a7 a8 a9 a10 a11 a12 a13 a14 a15 a16
def bd17 {α1 α2 α3 α4 α5 α6 α7 α8 α9 α10 α11 α12 α13 α14 α15 α16 α17 ρ : Type} (o : Option (α1 × α2 × α3 × α4 × α5 × α6 × α7 × α8 × α9 × α10 × α11 × α12 × α13 × α14 × α15 × α16 × α17)) (f : α1 → α2 → α3 → α4 → α5 → α6 → α7 → α8 → α9 → α10 → α11 → α12 → α13 → α14 → α15 → α16 → α17 → Option ρ) : Option ρ := match o with | none => none | some (a1, a2, a3, a4, a5, a6, a7, a8, a9, a10, a11, a12, a13, a14, a15, a16, a17) => f a1 a2 a3 a4 a5 a6 a7 a8 a9 a10 a11 a12 a13 a14 a15 a16 a17
def bd18 {α1 α2 α3 α4 α5 α6 α7 α8 α9 α10 α11 α12 α13 α14 α15 α16 α17 α18 ρ : Type} (o : Option (α1 × α2 × α3 × α4 × α5 × α6 × α7 × α8 × α9 × α10 × α11 × α12 × α13 × α14 × α15 × α16 × α17 × α18)) (f : α1 → α2 → α3 → α4 → α5 → α6 → α7 → α8 → α9 → α10 → α11 → α12 → α13 → α14 → α15 → α16 → α17 → α18 → Option ρ) : Option ρ := match o with | none => none | some (a1, a2, a3, a4, a5, a6, a7, a8, a9, a10, a11, a12, a13, a14, a15, a16, a17, a18) => f a1 a2 a3 a4 a5 a6 a7 a8 a9 a10 a11 a12 a13 a14 a15 a16 a17 a18
def bd19 {α1 α2 α3 α4 α5 α6 α7 α8 α9 α10 α11 α12 α13 α14 α15 α16 α17 α18 α19 ρ : Type} (o : Option (α1 × α2 × α3 × α4 × α5 × α6 × α7 × α8 × α9 × α10 × α11 × α12 × α13 × α14 × α15 × α16 × α17 × α18 × α19)) (f : α1 → α2 → α3 → α4 → α5 → α6 → α7 → α8 → α9 → α10 → α11 → α12 → α13 → α14 → α15 → α16 → α17 → α18 → α19 → Option ρ) : Option ρ := match o with | none => none | some (a1, a2, a3, a4, a5, a6, a7, a8, a9, a10, a11, a12, a13, a14, a15, a16, a17, a18, a19) => f a1 a2 a3 a4 a5 a6 a7 a8 a9 a10 a11 a12 a13 a14 a15 a16 a17 a18 a19
def bd20 {α1 α2 α3 α4 α5 α6 α7 α8 α9 α10 α11 α12 α13 α14 α15 α16 α17 α18 α19 α20 ρ : Type} (o : Option (α1 × α2 × α3 × α4 × α5 × α6 × α7 × α8 × α9 × α10 × α11 × α12 × α13 × α14 × α15 × α16 × α17 × α18 × α19 × α20)) (f : α1 → α2 → α3 → α4 → α5 → α6 → α7 → α8 → α9 → α10 → α11 → α12 → α13 → α14 → α15 → α16 → α17 → α18 → α19 → α20 → Option ρ) : Option ρ := match o with | none => none | some (a1, a2, a3, a4, a5, a6, a7, a8, a9, a10, a11, a12, a13, a14, a15, a16, a17, a18, a19, a20) => f a1 a2 a3 a4 a5 a6 a7 a8 a9 a10 a11 a12 a13 a14 a15 a16 a17 a18 a19 a20
theorem bd1_s {α1 ρ : Type} {o : Option (α1)} {f : α1 → Option ρ} {r : ρ} (h : bd1 o f = some r) : ∃ a1, o = some a1 ∧ f a1 = some r := by
  cases o with
  | none => cases h
  | some a => exact ⟨a, rfl, h⟩
theorem bd2_s {α1 α2 ρ : Type} {o : Option (α1 × α2)} {f : α1 → α2 → Option ρ} {r : ρ} (h : bd2 o f = some r) : ∃ a1 a2, o = some (a1, a2) ∧ f a1 a2 = some r := by
  cases o with
  | none => cases h
  | some a => exact ⟨a.1, a.2, rfl, h⟩
theorem bd3_s {α1 α2 α3 ρ : Type} {o : Option (α1 × α2 × α3)} {f : α1 → α2 → α3 → Option ρ} {r : ρ} (h : bd3 o f = some r) : ∃ a1 a2 a3, o = some (a1, a2, a3) ∧ f a1 a2 a3 = some r := by
  cases o with
  | none => cases h
  | some a => exact ⟨a.1, a.2.1, a.2.2, rfl, h⟩
theorem bd4_s {α1 α2 α3 α4 ρ : Type} {o : Option (α1 × α2 × α3 × α4)} {f : α1 → α2 → α3 → α4 → Option ρ} {r : ρ} (h : bd4 o f = some r) : ∃ a1 a2 a3 a4, o = some (a1, a2, a3, a4) ∧ f a1 a2 a3 a4 = some r := by
  cases o with
  | none => cases h
  | some a => exact ⟨a.1, a.2.1, a.2.2.1, a.2.2.2, rfl, h⟩
theorem bd5_s {α1 α2 α3 α4 α5 ρ : Type} {o : Option (α1 × α2 × α3 × α4 × α5)} {f : α1 → α2 → α3 → α4 → α5 → Option ρ} {r : ρ} (h : bd5 o f = some r) : ∃ a1 a2 a3 a4 a5, o = some (a1, a2, a3, a4, a5) ∧ f a1 a2 a3 a4 a5 = some r := by
  cases o with
  | none => cases h
  | some a => exact ⟨a.1, a.2.1, a.2.2.1, a.2.2.2.1, a.2.2.2.2, rfl, h⟩
theorem bd6_s {α1 α2 α3 α4 α5 α6 ρ : Type} {o : Option (α1 × α2 × α3 × α4 × α5 × α6)} {f : α1 → α2 → α3 → α4 → α5 → α6 → Option ρ} {r : ρ} (h : bd6 o f = some r) : ∃ a1 a2 a3 a4 a5 a6, o = some (a1, a2, a3, a4, a5, a6) ∧ f a1 a2 a3 a4 a5 a6 = some r := by
  cases o with
  | none => cases h
  | some a => exact ⟨a.1, a.2.1, a.2.2.1, a.2.2.2.1, a.2.2.2.2.1, a.2.2.2.2.2, rfl, h⟩
theorem bd7_s {α1 α2 α3 α4 α5 α6 α7 ρ : Type} {o : Option (α1 × α2 × α3 × α4 × α5 × α6 × α7)} {f : α1 → α2 → α3 → α4 → α5 → α6 → α7 → Option ρ} {r : ρ} (h : bd7 o f = some r) : ∃ a1 a2 a3 a4 a5 a6 a7, o = some (a1, a2, a3, a4, a5, a6, a7) ∧ f a1 a2 a3 a4 a5 a6 a7 = some r := by
  cases o with
  | none => cases h
  | some a => exact ⟨a.1, a.2.1, a.2.2.1, a.2.2.2.1, a.2.2.2.2.1, a.2.2.2.2.2.1, a.2.2.2.2.2.2, rfl, h⟩
theorem bd8_s {α1 α2 α3 α4 α5 α6 α7 α8 ρ : Type} {o : Option (α1 × α2 × α3 × α4 × α5 × α6 × α7 × α8)} {f : α1 → α2 → α3 → α4 → α5 → α6 → α7 → α8 → Option ρ} {r : ρ} (h : bd8 o f = some r) : ∃ a1 a2 a3 a4 a5 a6 a7 a8, o = some (a1, a2, a3, a4, a5, a6, a7, a8) ∧ f a1 a2 a3 a4 a5 a6 a7 a8 = some r := by
  cases o with
  | none => cases h
  | some a => exact ⟨a.1, a.2.1, a.2.2.1, a.2.2.2.1, a.2.2.2.2.1, a.2.2.2.2.2.1, a.2.2.2.2.2.2.1, a.2.2.2.2.2.2.2, rfl, h⟩
theorem bd9_s {α1 α2 α3 α4 α5 α6 α7 α8 α9 ρ : Type} {o : Option (α1 × α2 × α3 × α4 × α5 × α6 × α7 × α8 × α9)} {f : α1 → α2 → α3 → α4 → α5 → α6 → α7 → α8 → α9 → Option ρ} {r : ρ} (h : bd9 o f = some r) : ∃ a1 a2 a3 a4 a5 a6 a7 a8 a9, o = some (a1, a2, a3, a4, a5, a6, a7, a8, a9) ∧ f a1 a2 a3 a4 a5 a6 a7 a8 a9 = some r := by
  cases o with
  | none => cases h
  | some a => exact ⟨a.1, a.2.1, a.2.2.1, a.2.2.2.1, a.2.2.2.2.1, a.2.2.2.2.2.1, a.2.2.2.2.2.2.1, a.2.2.2.2.2.2.2.1, a.2.2.2.2.2.2.2.2, rfl, h⟩
theorem bd10_s {α1 α2 α3 α4 α5 α6 α7 α8 α9 α10 ρ : Type} {o : Option (α1 × α2 × α3 × α4 × α5 × α6 × α7 × α8 × α9 × α10)} {f : α1 → α2 → α3 → α4 → α5 → α6 → α7 → α8 → α9 → α10 → Option ρ} {r : ρ} (h : bd10 o f = some r) : ∃ a1 a2 a3 a4 a5 a6 a7 a8 a9 a10, o = some (a1, a2, a3, a4, a5, a6, a7, a8, a9, a10) ∧ f a1 a2 a3 a4 a5 a6 a7 a8 a9 a10 = some r := by
  cases o with
  | none => cases h
  | some a => exact ⟨a.1, a.2.1, a.2.2.1, a.2.2.2.1, a.2.2.2.2.1, a.2.2.2.2.2.1, a.2.2.2.2.2.2.1, a.2.2.2.2.2.2.2.1, a.2.2.2.2.2.2.2.2.1, a.2.2.2.2.2.2.2.2.2, rfl, h⟩
theorem bd11_s {α1 α2 α3 α4 α5 α6 α7 α8 α9 α10 α11 ρ : Type} {o : Option (α1 × α2 × α3 × α4 × α5 × α6 × α7 × α8 × α9 × α10 × α11)} {f : α1 → α2 → α3 → α4 → α5 → α6 → α7 → α8 → α9 → α10 → α11 → Option ρ} {r : ρ} (h : bd11 o f = some r) : ∃ a1 a2 a3 a4 a5 a6 a7 a8 a9 a10 a11, o = some (a1, a2, a3, a4, a5, a6, a7, a8, a9, a10, a11) ∧ f a1 a2 a3 a4 a5 a6 a7 a8 a9 a10 a11 = some r := by
  cases o with
  | none => cases h
  | some a => exact ⟨a.1, a.2.1, a.2.2.1, a.2.2.2.1, a.2.2.2.2.1, a.2.2.2.2.2.1, a.2.2.2.2.2.2.1, a.2.2.2.2.2.2.2.1, a.2.2.2.2.2.2.2.2.1, a.2.2.2.2.2.2.2.2.2.1, a.2.2.2.2.2.2.2.2.2.2, rfl, h⟩
theorem bd12_s {α1 α2 α3 α4 α5 α6 α7 α8 α9 α10 α11 α12 ρ : Type} {o : Option (α1 × α2 × α3 × α4 × α5 × α6 × α7 × α8 × α9 × α10 × α11 × α12)} {f : α1 → α2 → α3 → α4 → α5 → α6 → α7 → α8 → α9 → α10 → α11 → α12 → Option ρ} {r : ρ} (h : bd12 o f = some r) : ∃ a1 a2 a3 a4 a5 a6 a7 a8 a9 a10 a11 a12, o = some (a1, a2, a3, a4, a5, a6, a7, a8, a9, a10, a11, a12) ∧ f a1 a2 a3 a4 a5 a6 a7 a8 a9 a10 a11 a12 = some r := by
  cases o with
  | none => cases h
  | some a => exact ⟨a.1, a.2.1, a.2.2.1, a.2.2.2.1, a.2.2.2.2.1, a.2.2.2.2.2.1, a.2.2.2.2.2.2.1, a.2.2.2.2.2.2.2.1, a.2.2.2.2.2.2.2.2.1, a.2.2.2.2.2.2.2.2.2.1, a.2.2.2.2.2.2.2.2.2.2.1, a.2.2.2.2.2.2.2.2.2.2.2, rfl, h⟩
theorem bd13_s {α1 α2 α3 α4 α5 α6 α7 α8 α9 α10 α11 α12 α13 ρ : Type} {o : Option (α1 × α2 × α3 × α4 × α5 × α6 × α7 × α8 × α9 × α10 × α11 × α12 × α13)} {f : α1 → α2 → α3 → α4 → α5 → α6 → α7 → α8 → α9 → α10 → α11 → α12 → α13 → Option ρ} {r : ρ} (h : bd13 o f = some r) : ∃ a1 a2 a3 a4 a5 a6 a7 a8 a9 a10 a11 a12 a13, o = some (a1, a2, a3, a4, a5, a6, a7, a8, a9, a10, a11, a12, a13) ∧ f a1 a2 a3 a4 a5 a6 a7 a8 a9 a10 a11 a12 a13 = some r := by
  cases o with
  | none => cases h
  | some a => exact ⟨a.1, a.2.1, a.2.2.1, a.2.2.2.1, a.2.2.2.2.1, a.2.2.2.2.2.1, a.2.2.2.2.2.2.1, a.2.2.2.2.2.2.2.1, a.2.2.2.2.2.2.2.2.1, a.2.2.2.2.2.2.2.2.2.1, a.2.2.2.2.2.2.2.2.2.2.1, a.2.2.2.2.2.2.2.2.2.2.2.1, a.2.2.2.2.2.2.2.2.2.2.2.2, rfl, h⟩
theorem bd14_s {α1 α2 α3 α4 α5 α6 α7 α8 α9 α10 α11 α12 α13 α14 ρ : Type} {o : Option (α1 × α2 × α3 × α4 × α5 × α6 × α7 × α8 × α9 × α10 × α11 × α12 × α13 × α14)} {f : α1 → α2 → α3 → α4 → α5 → α6 → α7 → α8 → α9 → α10 → α11 → α12 → α13 → α14 → Option ρ} {r : ρ} (h : bd14 o f = some r) : ∃ a1 a2 a3 a4 a5 a6 a7 a8 a9 a10 a11 a12 a13 a14, o = some (a1, a2, a3, a4, a5, a6, a7, a8, a9, a10, a11, a12, a13, a14) ∧ f a1 a2 a3 a4 a5 a6 a7 a8 a9 a10 a11 a12 a13 a14 = some r := by
  cases o with
  | none => cases h
  | some a => exact ⟨a.1, a.2.1, a.2.2.1, a.2.2.2.1, a.2.2.2.2.1, a.2.2.2.2.2.1, a.2.2.2.2.2.2.1, a.2.2.2.2.2.2.2.1, a.2.2.2.2.2.2.2.2.1, a.2.2.2.2.2.2.2.2.2.1, a.2.2.2.2.2.2.2.2.2.2.1, a.2.2.2.2.2.2.2.2.2.2.2.1, a.2.2.2.2.2.2.2.2.2.2.2.2.1, a.2.2.2.2.2.2.2.2.2.2.2.2.2, rfl, h⟩
theorem bd15_s {α1 α2 α3 α4 α5 α6 α7 α8 α9 α10 α11 α12 α13 α14 α15 ρ : Type} {o : Option (α1 × α2 × α3 × α4 × α5 × α6 × α7 × α8 × α9 × α10 × α11 × α12 × α13 × α14 × α15)} {f : α1 → α2 → α3 → α4 → α5 → α6 → α7 → α8 → α9 → α10 → α11 → α12 → α13 → α14 → α15 → Option ρ} {r : ρ} (h : bd15 o f = some r) : ∃ a1 a2 a3 a4 a5 a6 a7 a8 a9 a10 a11 a12 a13 a14 a15, o = some (a1, a2, a3, a4, a5, a6, a7, a8, a9, a10, a11, a12, a13, a14, a15) ∧ f a1 a2 a3 a4 a5 a6 a7 a8 a9 a10 a11 a12 a13 a14 a15 = some r := by
  cases o with
  | none => cases h
  | some a => exact ⟨a.1, a.2.1, a.2.2.1, a.2.2.2.1, a.2.2.2.2.1, a.2.2.2.2.2.1, a.2.2.2.2.2.2.1, a.2.2.2.2.2.2.2.1, a.2.2.2.2.2.2.2.2.1, a.2.2.2.2.2.2.2.2.2.1, a.2.2.2.2.2.2.2.2.2.2.1, a.2.2.2.2.2.2.2.2.2.2.2.1, a.2.2.2.2.2.2.2.2.2.2.2.2.1, a.2.2.2.2.2.2.2.2.2.2.2.2.2.1, a.2.2.2.2.2.2.2.2.2.2.2.2.2.2, rfl, h⟩
theorem bd16_s {α1 α2 α3 α4 α5 α6 α7 α8 α9 α10 α11 α12 α13 α14 α15 α16 ρ : Type} {o : Option (α1 × α2 × α3 × α4 × α5 × α6 × α7 × α8 × α9 × α10 × α11 × α12 × α13 × α14 × α15 × α16)} {f : α1 → α2 → α3 → α4 → α5 → α6 → α7 → α8 → α9 → α10 → α11 → α12 → α13 → α14 → α15 → α16 → Option ρ} {r : ρ} (h : bd16 o f = some r) : ∃ a1 a2 a3 a4 a5 a6 a7 a8 a9 a10 a11 a12 a13 a14 a15 a16, o = some (a1, a2, a3, a4, a5, a6, a7, a8, a9, a10, a11, a12, a13, a14, a15, a16) ∧ f a1 a2 a3 a4 a5 a6 a7 a8 a9 a10 a11 a12 a13 a14 a15 a16 = some r := by
  cases o with
  | none => cases h
  | some a => exact ⟨a.1, a.2.1, a.2.2.1, a.2.2.2.1, a.2.2.2.2.1, a.2.2.2.2.2.1, a.2.2.2.2.2.2.1, a.2.2.2.2.2.2.2.1, a.2.2.2.2.2.2.2.2.1, a.2.2.2.2.2.2.2.2.2.1, a.2.2.2.2.2.2.2.2.2.2.1, a.2.2.2.2.2.2.2.2.2.2.2.1, a.2.2.2.2.2.2.2.2.2.2.2.2.1, a.2.2.2.2.2.2.2.2.2.2.2.2.2.1, a.2.2.2.2.2.2.2.2.2.2.2.2.2.2.1, a.2.2.2.2.2.2.2.2.2.2.2.2.2.2.2, rfl, h⟩
theorem bd17_s {α1 α2 α3 α4 α5 α6 α7 α8 α9 α10 α11 α12 α13 α14 α15 α16 α17 ρ : Type} {o : Option (α1 × α2 × α3 × α4 × α5 × α6 × α7 × α8 × α9 × α10 × α11 × α12 × α13 × α14 × α15 × α16 × α17)} {f : α1 → α2 → α3 → α4 → α5 → α6 → α7 → α8 → α9 → α10 → α11 → α12 → α13 → α14 → α15 → α16 → α17 → Option ρ} {r : ρ} (h : bd17 o f = some r) : ∃ a1 a2 a3 a4 a5 a6 a7 a8 a9 a10 a11 a12 a13 a14 a15 a16 a17, o = some (a1, a2, a3, a4, a5, a6, a7, a8, a9, a10, a11, a12, a13, a14, a15, a16, a17) ∧ f a1 a2 a3 a4 a5 a6 a7 a8 a9 a10 a11 a12 a13 a14 a15 a16 a17 = some r := by
  cases o with
  | none => cases h
  | some a => exact ⟨a.1, a.2.1, a.2.2.1, a.2.2.2.1, a.2.2.2.2.1, a.2.2.2.2.2.1, a.2.2.2.2.2.2.1, a.2.2.2.2.2.2.2.1, a.2.2.2.2.2.2.2.2.1, a.2.2.2.2.2.2.2.2.2.1, a.2.2.2.2.2.2.2.2.2.2.1, a.2.2.2.2.2.2.2.2.2.2.2.1, a.2.2.2.2.2.2.2.2.2.2.2.2.1, a.2.2.2.2.2.2.2.2.2.2.2.2.2.1, a.2.2.2.2.2.2.2.2.2.2.2.2.2.2.1, a.2.2.2.2.2.2.2.2.2.2.2.2.2.2.2.1, a.2.2.2.2.2.2.2.2.2.2.2.2.2.2.2.2, rfl, h⟩
theorem bd18_s {α1 α2 α3 α4 α5 α6 α7 α8 α9 α10 α11 α12 α13 α14 α15 α16 α17 α18 ρ : Type} {o : Option (α1 × α2 × α3 × α4 × α5 × α6 × α7 × α8 × α9 × α10 × α11 × α12 × α13 × α14 × α15 × α16 × α17 × α18)} {f : α1 → α2 → α3 → α4 → α5 → α6 → α7 → α8 → α9 → α10 → α11 → α12 → α13 → α14 → α15 → α16 → α17 → α18 → Option ρ} {r : ρ} (h : bd18 o f = some r) : ∃ a1 a2 a3 a4 a5 a6 a7 a8 a9 a10 a11 a12 a13 a14 a15 a16 a17 a18, o = some (a1, a2, a3, a4, a5, a6, a7, a8, a9, a10, a11, a12, a13, a14, a15, a16, a17, a18) ∧ f a1 a2 a3 a4 a5 a6 a7 a8 a9 a10 a11 a12 a13 a14 a15 a16 a17 a18 = some r := by
  cases o with
  | none => cases h
  | some a => exact ⟨a.1, a.2.1, a.2.2.1, a.2.2.2.1, a.2.2.2.2.1, a.2.2.2.2.2.1, a.2.2.2.2.2.2.1, a.2.2.2.2.2.2.2.1, a.2.2.2.2.2.2.2.2.1, a.2.2.2.2.2.2.2.2.2.1, a.2.2.2.2.2.2.2.2.2.2.1, a.2.2.2.2.2.2.2.2.2.2.2.1, a.2.2.2.2.2.2.2.2.2.2.2.2.1, a.2.2.2.2.2.2.2.2.2.2.2.2.2.1, a.2.2.2.2.2.2.2.2.2.2.2.2.2.2.1, a.2.2.2.2.2.2.2.2.2.2.2.2.2.2.2.1, a.2.2.2.2.2.2.2.2.2.2.2.2.2.2.2.2.1, a.2.2.2.2.2.2.2.2.2.2.2.2.2.2.2.2.2, rfl, h⟩
theorem bd19_s {α1 α2 α3 α4 α5 α6 α7 α8 α9 α10 α11 α12 α13 α14 α15 α16 α17 α18 α19 ρ : Type} {o : Option (α1 × α2 × α3 × α4 × α5 × α6 × α7 × α8 × α9 × α10 × α11 × α12 × α13 × α14 × α15 × α16 × α17 × α18 × α19)} {f : α1 → α2 → α3 → α4 → α5 → α6 → α7 → α8 → α9 → α10 → α11 → α12 → α13 → α14 → α15 → α16 → α17 → α18 → α19 → Option ρ} {r : ρ} (h : bd19 o f = some r) : ∃ a1 a2 a3 a4 a5 a6 a7 a8 a9 a10 a11 a12 a13 a14 a15 a16 a17 a18 a19, o = some (a1, a2, a3, a4, a5, a6, a7, a8, a9, a10, a11, a12, a13, a14, a15, a16, a17, a18, a19) ∧ f a1 a2 a3 a4 a5 a6 a7 a8 a9 a10 a11 a12 a13 a14 a15 a16 a17 a18 a19 = some r := by
  cases o with
  | none => cases h
  | some a => exact ⟨a.1, a.2.1, a.2.2.1, a.2.2.2.1, a.2.2.2.2.1, a.2.2.2.2.2.1, a.2.2.2.2.2.2.1, a.2.2.2.2.2.2.2.1, a.2.2.2.2.2.2.2.2.1, a.2.2.2.2.2.2.2.2.2.1, a.2.2.2.2.2.2.2.2.2.2.1, a.2.2.2.2.2.2.2.2.2.2.2.1, a.2.2.2.2.2.2.2.2.2.2.2.2.1, a.2.2.2.2.2.2.2.2.2.2.2.2.2.1, a.2.2.2.2.2.2.2.2.2.2.2.2.2.2.1, a.2.2.2.2.2.2.2.2.2.2.2.2.2.2.2.1, a.2.2.2.2.2.2.2.2.2.2.2.2.2.2.2.2.1, a.2.2.2.2.2.2.2.2.2.2.2.2.2.2.2.2.2.1, a.2.2.2.2.2.2.2.2.2.2.2.2.2.2.2.2.2.2, rfl, h⟩
theorem bd20_s {α1 α2 α3 α4 α5 α6 α7 α8 α9 α10 α11 α12 α13 α14 α15 α16 α17 α18 α19 α20 ρ : Type} {o : Option (α1 × α2 × α3 × α4 × α5 × α6 × α7 × α8 × α9 × α10 × α11 × α12 × α13 × α14 × α15 × α16 × α17 × α18 × α19 × α20)} {f : α1 → α2 → α3 → α4 → α5 → α6 → α7 → α8 → α9 → α10 → α11 → α12 → α13 → α14 → α15 → α16 → α17 → α18 → α19 → α20 → Option ρ} {r : ρ} (h : bd20 o f = some r) : ∃ a1 a2 a3 a4 a5 a6 a7 a8 a9 a10 a11 a12 a13 a14 a15 a16 a17 a18 a19 a20, o = some (a1, a2, a3, a4, a5, a6, a7, a8, a9, a10, a11, a12, a13, a14, a15, a16, a17, a18, a19, a20) ∧ f a1 a2 a3 a4 a5 a6 a7 a8 a9 a10 a11 a12 a13 a14 a15 a16 a17 a18 a19 a20 = some r := by
  cases o with
  | none => cases h
  | some a => exact ⟨a.1, a.2.1, a.2.2.1, a.2.2.2.1, a.2.2.2.2.1, a.2.2.2.2.2.1, a.2.2.2.2.2.2.1, a.2.2.2.2.2.2.2.1, a.2.2.2.2.2.2.2.2.1, a.2.2.2.2.2.2.2.2.2.1, a.2.2.2.2.2.2.2.2.2.2.1, a.2.2.2.2.2.2.2.2.2.2.2.1, a.2.2.2.2.2.2.2.2.2.2.2.2.1, a.2.2.2.2.2.2.2.2.2.2.2.2.2.1, a.2.2.2.2.2.2.2.2.2.2.2.2.2.2.1, a.2.2.2.2.2.2.2.2.2.2.2.2.2.2.2.1, a.2.2.2.2.2.2.2.2.2.2.2.2.2.2.2.2.1, a.2.2.2.2.2.2.2.2.2.2.2.2.2.2.2.2.2.1, a.2.2.2.2.2.2.2.2.2.2.2.2.2.2.2.2.2.2.1, a.2.2.2.2.2.2.2.2.2.2.2.2.2.2.2.2.2.2.2, rfl, h⟩
def lt1 {α ρ : Type} (a : α) (f : α → Option ρ) : Option ρ := f a
theorem lt1_s {α ρ : Type} {a : α} {f : α → Option ρ} {r : ρ} (h : lt1 a f = some r) : ∃ x, a = x ∧ f x = some r := ⟨a, rfl, h⟩
abbrev oob (i : Int32) (n : Nat) : Prop := i < 0 ∨ n ≤ i.toNatClampNeg
abbrev is01 (v : Int32) : Prop := v = 0 ∨ v = 1
/-! a method's uniform contract: the world w comes in, the world w' goes out, the answer is r; nothing is made -/
abbrev PcU (D : va_G) (cl : List vw_C) (tys : List (ClassId × FieldType)) (w : va_W) (hs : Nat) (av : List Value) : Array Value → State → Prop := va_Pc av (fun U => U.heap.size = hs ∧ va_P D cl w U.heap ∧ va_K D cl tys U ∧ va_D (fun _ => True) w)
abbrev BU (D : va_G) (cl : List vw_C) (tys : List (ClassId × FieldType)) (w w' : va_W) (hs : Nat) : Unit → State → Prop := fun _ t => va_P D cl w' t.heap ∧ va_K D cl tys t ∧ va_D (va_A w hs) w'
abbrev QUi (D : va_G) (cl : List vw_C) (tys : List (ClassId × FieldType)) (w w' : va_W) (hs : Nat) (r : Int32) : Array Value → State → Outcome → State → Prop := va_Qi (fun (x : Int32) (_ : Unit) => x = r) (BU D cl tys w w' hs) (va_A w hs)
abbrev QUl (D : va_G) (cl : List vw_C) (tys : List (ClassId × FieldType)) (w w' : va_W) (hs : Nat) (r : Int64) : Array Value → State → Outcome → State → Prop := va_Ql (fun (x : Int64) (_ : Unit) => x = r) (BU D cl tys w w' hs) (va_A w hs)
abbrev QUv (D : va_G) (cl : List vw_C) (tys : List (ClassId × FieldType)) (w w' : va_W) (hs : Nat) : Array Value → State → Outcome → State → Prop := va_Qv (fun (_ : Unit) => True) (BU D cl tys w w' hs) (va_A w hs)
section MU
variable {l : Launch} {y : MethodName} {ws ws' : List Cond} {rm : Room} {D : va_G} {cl : List vw_C} {tys : List (ClassId × FieldType)} {w w' : va_W} {av : List Value} {cc : ByteArray} {maxL : Nat} {hs : Nat}
theorem mUi {r : Int32} (hy : plainName y.cls = true) (hw : ws = Cond.code y cc maxL (some .int) :: ws') (hav : (lg_sl av).length ≤ maxL)
    (body : ∀ (p : Program) (e : Env) (s : State) (m : MethodId) (args : Array Value) (below : List Frame) (meth : Method) (c : Code) (Q : State → Prop), p.tables.exec = Jvm.exec → c.code = cc → c.maxLocals = maxL → (∀ q ∈ ws, q.before args s = true) → s.vm.findClass y.cls = some m.cls →
      ∀ (A : Nat → Prop), (∀ q, s.heap.size ≤ q → A q) → va_K D cl tys s → va_P D cl w s.heap → va_D A w → va_S A s.heap s.heap [] →
      (∀ (H : Heap) (locs : List Loc) (pc : Nat) (ls : Array Slot), va_P D cl w' H → va_D A w' → va_S A s.heap H locs → decode cc pc = .ok (.ireturn, 1) → W p l e (headSpec ws rm).room s m args below meth c H locs 0 0 Q (F0 m pc ls [.int r])) →
      ∀ ls : Array Slot, lv_has ls maxL (lv_args 0 av) → W p l e (headSpec ws rm).room s m args below meth c s.heap [] 0 0 Q (F0 m 0 ls [])) :
    Met l y ws rm (PcU D cl tys w hs av) (QUi D cl tys w w' hs r) 0 0 (va_A w hs) := by
  refine Met.ofW (cc := cc) (maxL := maxL) (ret := some .int) hy hw ?_
  intro p e s m args below meth c s₁ B hml hv
  obtain ⟨rfl, hsz, hP, hK, hD0⟩ := hv
  subst hsz
  have hD := hD0.self (sz := s.heap.size)
  have hl := lv_entry av (n := maxL) hav
  rw [lg_entry_eq]
  have hlocks := B.notSynchronized
  refine body p e s m _ below meth c _ B.exec B.bytes hml (atoms_spec (ws := ws) B.pre) (findClass_of_methodNamed B.named) (va_A w s.heap.size) (fun q h => Or.inr h) hK hP hD va_S.rf ?_ _ hl
  intro H locs pc ls hP hD hS hdg
  exact W.iret B.exec B.bytes B.returns (fun t ht hW => ⟨⟨r, (), rfl, rfl, by rw [ht]; exact hP, va_K.moved hW.alike hK, hD⟩, hS.F ht⟩) hS.2.2 hdg
theorem mUz {r : Int32} (hy : plainName y.cls = true) (hw : ws = Cond.code y cc maxL (some .boolean) :: ws') (hav : (lg_sl av).length ≤ maxL)
    (body : ∀ (p : Program) (e : Env) (s : State) (m : MethodId) (args : Array Value) (below : List Frame) (meth : Method) (c : Code) (Q : State → Prop), p.tables.exec = Jvm.exec → c.code = cc → c.maxLocals = maxL → (∀ q ∈ ws, q.before args s = true) → s.vm.findClass y.cls = some m.cls →
      ∀ (A : Nat → Prop), (∀ q, s.heap.size ≤ q → A q) → va_K D cl tys s → va_P D cl w s.heap → va_D A w → va_S A s.heap s.heap [] →
      (∀ (H : Heap) (locs : List Loc) (pc : Nat) (ls : Array Slot), is01 r → va_P D cl w' H → va_D A w' → va_S A s.heap H locs → decode cc pc = .ok (.ireturn, 1) → W p l e (headSpec ws rm).room s m args below meth c H locs 0 0 Q (F0 m pc ls [.int r])) →
      ∀ ls : Array Slot, lv_has ls maxL (lv_args 0 av) → W p l e (headSpec ws rm).room s m args below meth c s.heap [] 0 0 Q (F0 m 0 ls [])) :
    Met l y ws rm (PcU D cl tys w hs av) (QUi D cl tys w w' hs r) 0 0 (va_A w hs) := by
  refine Met.ofW (cc := cc) (maxL := maxL) (ret := some .boolean) hy hw ?_
  intro p e s m args below meth c s₁ B hml hv
  obtain ⟨rfl, hsz, hP, hK, hD0⟩ := hv
  subst hsz
  have hD := hD0.self (sz := s.heap.size)
  have hl := lv_entry av (n := maxL) hav
  rw [lg_entry_eq]
  have hlocks := B.notSynchronized
  refine body p e s m _ below meth c _ B.exec B.bytes hml (atoms_spec (ws := ws) B.pre) (findClass_of_methodNamed B.named) (va_A w s.heap.size) (fun q h => Or.inr h) hK hP hD va_S.rf ?_ _ hl
  intro H locs pc ls h01 hP hD hS hdg
  exact W.zret B.exec B.bytes B.returns (by rcases h01 with h | h <;> subst h <;> rfl) (fun t ht hW => ⟨⟨r, (), rfl, rfl, by rw [ht]; exact hP, va_K.moved hW.alike hK, hD⟩, hS.F ht⟩) hS.2.2 hdg
theorem mUl {r : Int64} (hy : plainName y.cls = true) (hw : ws = Cond.code y cc maxL (some .long) :: ws') (hav : (lg_sl av).length ≤ maxL)
    (body : ∀ (p : Program) (e : Env) (s : State) (m : MethodId) (args : Array Value) (below : List Frame) (meth : Method) (c : Code) (Q : State → Prop), p.tables.exec = Jvm.exec → c.code = cc → c.maxLocals = maxL → (∀ q ∈ ws, q.before args s = true) → s.vm.findClass y.cls = some m.cls →
      ∀ (A : Nat → Prop), (∀ q, s.heap.size ≤ q → A q) → va_K D cl tys s → va_P D cl w s.heap → va_D A w → va_S A s.heap s.heap [] →
      (∀ (H : Heap) (locs : List Loc) (pc : Nat) (ls : Array Slot), va_P D cl w' H → va_D A w' → va_S A s.heap H locs → decode cc pc = .ok (.lreturn, 1) → W p l e (headSpec ws rm).room s m args below meth c H locs 0 0 Q (F0 m pc ls [.long r])) →
      ∀ ls : Array Slot, lv_has ls maxL (lv_args 0 av) → W p l e (headSpec ws rm).room s m args below meth c s.heap [] 0 0 Q (F0 m 0 ls [])) :
    Met l y ws rm (PcU D cl tys w hs av) (QUl D cl tys w w' hs r) 0 0 (va_A w hs) := by
  refine Met.ofW (cc := cc) (maxL := maxL) (ret := some .long) hy hw ?_
  intro p e s m args below meth c s₁ B hml hv
  obtain ⟨rfl, hsz, hP, hK, hD0⟩ := hv
  subst hsz
  have hD := hD0.self (sz := s.heap.size)
  have hl := lv_entry av (n := maxL) hav
  rw [lg_entry_eq]
  have hlocks := B.notSynchronized
  refine body p e s m _ below meth c _ B.exec B.bytes hml (atoms_spec (ws := ws) B.pre) (findClass_of_methodNamed B.named) (va_A w s.heap.size) (fun q h => Or.inr h) hK hP hD va_S.rf ?_ _ hl
  intro H locs pc ls hP hD hS hdg
  exact W.lret B.exec B.bytes B.returns (fun t ht hW => ⟨⟨r, (), rfl, rfl, by rw [ht]; exact hP, va_K.moved hW.alike hK, hD⟩, hS.F ht⟩) hS.2.2 hdg
theorem mUv (hy : plainName y.cls = true) (hw : ws = Cond.code y cc maxL none :: ws') (hav : (lg_sl av).length ≤ maxL)
    (body : ∀ (p : Program) (e : Env) (s : State) (m : MethodId) (args : Array Value) (below : List Frame) (meth : Method) (c : Code) (Q : State → Prop), p.tables.exec = Jvm.exec → c.code = cc → c.maxLocals = maxL → (∀ q ∈ ws, q.before args s = true) → s.vm.findClass y.cls = some m.cls →
      ∀ (A : Nat → Prop), (∀ q, s.heap.size ≤ q → A q) → va_K D cl tys s → va_P D cl w s.heap → va_D A w → va_S A s.heap s.heap [] →
      (∀ (H : Heap) (locs : List Loc) (pc : Nat) (ls : Array Slot), va_P D cl w' H → va_D A w' → va_S A s.heap H locs → decode cc pc = .ok (.return_, 1) → W p l e (headSpec ws rm).room s m args below meth c H locs 0 0 Q (F0 m pc ls [])) →
      ∀ ls : Array Slot, lv_has ls maxL (lv_args 0 av) → W p l e (headSpec ws rm).room s m args below meth c s.heap [] 0 0 Q (F0 m 0 ls [])) :
    Met l y ws rm (PcU D cl tys w hs av) (QUv D cl tys w w' hs) 0 0 (va_A w hs) := by
  refine Met.ofW (cc := cc) (maxL := maxL) (ret := none) hy hw ?_
  intro p e s m args below meth c s₁ B hml hv
  obtain ⟨rfl, hsz, hP, hK, hD0⟩ := hv
  subst hsz
  have hD := hD0.self (sz := s.heap.size)
  have hl := lv_entry av (n := maxL) hav
  rw [lg_entry_eq]
  have hlocks := B.notSynchronized
  refine body p e s m _ below meth c _ B.exec B.bytes hml (atoms_spec (ws := ws) B.pre) (findClass_of_methodNamed B.named) (va_A w s.heap.size) (fun q h => Or.inr h) hK hP hD va_S.rf ?_ _ hl
  intro H locs pc ls hP hD hS hdg
  exact W.vret B.exec B.bytes B.returns (fun t ht hW => ⟨⟨(), rfl, trivial, by rw [ht]; exact hP, va_K.moved hW.alike hK, hD⟩, hS.F ht⟩) hS.2.2 hdg
end MU
section UC
variable {cells slots : Nat} {p : Program} {l : Launch} {e : Env} {R : Room} {s : State} {m : MethodId} {args : Array Value} {below : List Frame} {meth : Method} {c : Code} {H : Heap} {locs : List Loc} {Q : State → Prop}
variable {cc : ByteArray} {nL : Nat} {Ts : List Cond} {own C : String} {index : Nat} {y : MethodName} {bytes : ByteArray} {maxL : Nat} {ret : Option FieldType} {ws : List Cond} {rm : Room} {n : Nat}
variable {D : va_G} {cl : List vw_C} {tys : List (ClassId × FieldType)} {w w' : va_W} {b : Nat} {As rest st0 : List Value} {A0 : Nat → Prop} {pc : Nat} {ls : Array Slot}
theorem pcU_blind {hs : Nat} {av : List Value} : FrameBlind (PcU D cl tys w hs av) := fun a U g mk q => by
  obtain ⟨q0, q1, qP, qK, qD⟩ := q
  exact ⟨q0, q1, qP, va_K.moved (u := U) (U := U.calling g mk a) (Vm.Alike.refl U.vm) qK, qD⟩
theorem ucVi {r : Int32} (S : CallFix p m c cc nL s args Ts own) (hK : va_K D cl tys s) (hP : va_P D cl w H) (hD : va_D A0 w) (hS : va_S A0 s.heap H locs) (hA : ∀ q, s.heap.size ≤ q → A0 q)
    (hM : ∀ hs, Met l y ws rm (PcU D cl tys w hs (.ref b :: As)) (QUi D cl tys w w' hs r) 0 0 (va_A w hs)) (cw : CallW R s args own C index y bytes maxL ret ws rm 0 0 n)
    (q0 ci : Nat) {q : vw_C} {fs : List Value} (hc : cl[ci]? = some q) (hq : q.1 = C) (he : w[q0]? = some (b, .inr (ci, fs))) (hst : st0 = As.reverse ++ .ref b :: rest) (hn : As.length = n) (hsz : ls.size = nL) (hW : (rest.map fun v => v.category).sum ≤ 8) (hdg : decode cc pc = .ok (.invokevirtual index, 3)) (hrm : cells ≤ R.cells ∧ slots ≤ R.slots)
    (kk : ∀ (H1 : Heap) (locs1 : List Loc), va_P D cl w' H1 → va_D A0 w' → va_S A0 s.heap H1 locs1 → W p l e R s m args below meth c H1 locs1 cells slots Q (F0 m (pc + 3) ls (.int r :: rest))) :
    W p l e R s m args below meth c H locs cells slots Q (F0 m pc ls st0) := by
  subst hst
  have hFc : ∀ q, va_A w H.size q → A0 q := fun q h => by
    rcases h with ⟨k, e, hk⟩ | h
    · exact hD.2 k _ hk
    · exact hA q (Nat.le_trans hS.1 h)
  refine va_calli (va_runV (As := As) (rest := rest) S (hM H.size) cw ⟨pcU_blind, hq ▸ va_recv hK hP hc he, fun U hU hW => ⟨rfl, by rw [hU], by rw [hU]; exact hP, va_K.moved hW.alike hK, hD.weaken (fun _ _ _ _ => trivial)⟩⟩ rfl hn hsz rfl (lv_room hW) hdg hrm) hS (fun q _ h => hFc q h) hFc (fun r1 u t H1 locs1 ht hvm hw hB hz1 hk1 hS1 => ?_)
  obtain ⟨hP1, hK1, hD1⟩ := hB
  rw [ht] at hP1
  rw [hw]
  exact kk H1 locs1 hP1 (hD1.weaken (fun _ _ _ h => hFc _ h)) hS1
theorem ucVl {r : Int64} (S : CallFix p m c cc nL s args Ts own) (hK : va_K D cl tys s) (hP : va_P D cl w H) (hD : va_D A0 w) (hS : va_S A0 s.heap H locs) (hA : ∀ q, s.heap.size ≤ q → A0 q)
    (hM : ∀ hs, Met l y ws rm (PcU D cl tys w hs (.ref b :: As)) (QUl D cl tys w w' hs r) 0 0 (va_A w hs)) (cw : CallW R s args own C index y bytes maxL ret ws rm 0 0 n)
    (q0 ci : Nat) {q : vw_C} {fs : List Value} (hc : cl[ci]? = some q) (hq : q.1 = C) (he : w[q0]? = some (b, .inr (ci, fs))) (hst : st0 = As.reverse ++ .ref b :: rest) (hn : As.length = n) (hsz : ls.size = nL) (hW : (rest.map fun v => v.category).sum ≤ 8) (hdg : decode cc pc = .ok (.invokevirtual index, 3)) (hrm : cells ≤ R.cells ∧ slots ≤ R.slots)
    (kk : ∀ (H1 : Heap) (locs1 : List Loc), va_P D cl w' H1 → va_D A0 w' → va_S A0 s.heap H1 locs1 → W p l e R s m args below meth c H1 locs1 cells slots Q (F0 m (pc + 3) ls (.long r :: rest))) :
    W p l e R s m args below meth c H locs cells slots Q (F0 m pc ls st0) := by
  subst hst
  have hFc : ∀ q, va_A w H.size q → A0 q := fun q h => by
    rcases h with ⟨k, e, hk⟩ | h
    · exact hD.2 k _ hk
    · exact hA q (Nat.le_trans hS.1 h)
  refine va_calll (va_runV (As := As) (rest := rest) S (hM H.size) cw ⟨pcU_blind, hq ▸ va_recv hK hP hc he, fun U hU hW => ⟨rfl, by rw [hU], by rw [hU]; exact hP, va_K.moved hW.alike hK, hD.weaken (fun _ _ _ _ => trivial)⟩⟩ rfl hn hsz rfl (lv_room hW) hdg hrm) hS (fun q _ h => hFc q h) hFc (fun r1 u t H1 locs1 ht hvm hw hB hz1 hk1 hS1 => ?_)
  obtain ⟨hP1, hK1, hD1⟩ := hB
  rw [ht] at hP1
  rw [hw]
  exact kk H1 locs1 hP1 (hD1.weaken (fun _ _ _ h => hFc _ h)) hS1
theorem ucVv (S : CallFix p m c cc nL s args Ts own) (hK : va_K D cl tys s) (hP : va_P D cl w H) (hD : va_D A0 w) (hS : va_S A0 s.heap H locs) (hA : ∀ q, s.heap.size ≤ q → A0 q)
    (hM : ∀ hs, Met l y ws rm (PcU D cl tys w hs (.ref b :: As)) (QUv D cl tys w w' hs) 0 0 (va_A w hs)) (cw : CallW R s args own C index y bytes maxL ret ws rm 0 0 n)
    (q0 ci : Nat) {q : vw_C} {fs : List Value} (hc : cl[ci]? = some q) (hq : q.1 = C) (he : w[q0]? = some (b, .inr (ci, fs))) (hst : st0 = As.reverse ++ .ref b :: rest) (hn : As.length = n) (hsz : ls.size = nL) (hW : (rest.map fun v => v.category).sum ≤ 8) (hdg : decode cc pc = .ok (.invokevirtual index, 3)) (hrm : cells ≤ R.cells ∧ slots ≤ R.slots)
    (kk : ∀ (H1 : Heap) (locs1 : List Loc), va_P D cl w' H1 → va_D A0 w' → va_S A0 s.heap H1 locs1 → W p l e R s m args below meth c H1 locs1 cells slots Q (F0 m (pc + 3) ls rest)) :
    W p l e R s m args below meth c H locs cells slots Q (F0 m pc ls st0) := by
  subst hst
  have hFc : ∀ q, va_A w H.size q → A0 q := fun q h => by
    rcases h with ⟨k, e, hk⟩ | h
    · exact hD.2 k _ hk
    · exact hA q (Nat.le_trans hS.1 h)
  refine va_callv (va_runV (As := As) (rest := rest) S (hM H.size) cw ⟨pcU_blind, hq ▸ va_recv hK hP hc he, fun U hU hW => ⟨rfl, by rw [hU], by rw [hU]; exact hP, va_K.moved hW.alike hK, hD.weaken (fun _ _ _ _ => trivial)⟩⟩ rfl hn hsz rfl (lv_room hW) hdg hrm) hS (fun q _ h => hFc q h) hFc (fun u t H1 locs1 ht hvm hw hB hz1 hk1 hS1 => ?_)
  obtain ⟨hP1, hK1, hD1⟩ := hB
  rw [ht] at hP1
  exact kk H1 locs1 hP1 (hD1.weaken (fun _ _ _ h => hFc _ h)) hS1
theorem ucSv (S : CallFix p m c cc nL s args Ts own) (hK : va_K D cl tys s) (hP : va_P D cl w H) (hD : va_D A0 w) (hS : va_S A0 s.heap H locs) (hA : ∀ q, s.heap.size ≤ q → A0 q)
    (hM : ∀ hs, Met l y ws rm (PcU D cl tys w hs As) (QUv D cl tys w w' hs) 0 0 (va_A w hs)) (cw : CallB R s args own index y bytes maxL ret ws rm 0 0 n ∧ (Cond.static y).before args s = true)
    (hst : st0 = As.reverse ++ rest) (hn : As.length = n) (hsz : ls.size = nL) (hW : (rest.map fun v => v.category).sum ≤ 8) (hdg : decode cc pc = .ok (.invokestatic index, 3)) (hrm : cells ≤ R.cells ∧ slots ≤ R.slots)
    (kk : ∀ (H1 : Heap) (locs1 : List Loc), va_P D cl w' H1 → va_D A0 w' → va_S A0 s.heap H1 locs1 → W p l e R s m args below meth c H1 locs1 cells slots Q (F0 m (pc + 3) ls rest)) :
    W p l e R s m args below meth c H locs cells slots Q (F0 m pc ls st0) := by
  subst hst
  have hFc : ∀ q, va_A w H.size q → A0 q := fun q h => by
    rcases h with ⟨k, e, hk⟩ | h
    · exact hD.2 k _ hk
    · exact hA q (Nat.le_trans hS.1 h)
  refine va_callv (va_runS (As := As) (rest := rest) S (hM H.size) cw ⟨pcU_blind, fun U hU hW => ⟨rfl, by rw [hU], by rw [hU]; exact hP, va_K.moved hW.alike hK, hD.weaken (fun _ _ _ _ => trivial)⟩⟩ rfl hn hsz rfl (lv_room hW) hdg hrm) hS (fun q _ h => hFc q h) hFc (fun u t H1 locs1 ht hvm hw hB hz1 hk1 hS1 => ?_)
  obtain ⟨hP1, hK1, hD1⟩ := hB
  rw [ht] at hP1
  exact kk H1 locs1 hP1 (hD1.weaken (fun _ _ _ h => hFc _ h)) hS1
theorem ucSi {r : Int32} (S : CallFix p m c cc nL s args Ts own) (hK : va_K D cl tys s) (hP : va_P D cl w H) (hD : va_D A0 w) (hS : va_S A0 s.heap H locs) (hA : ∀ q, s.heap.size ≤ q → A0 q)
    (hM : ∀ hs, Met l y ws rm (PcU D cl tys w hs As) (QUi D cl tys w w' hs r) 0 0 (va_A w hs)) (cw : CallB R s args own index y bytes maxL ret ws rm 0 0 n ∧ (Cond.static y).before args s = true)
    (hst : st0 = As.reverse ++ rest) (hn : As.length = n) (hsz : ls.size = nL) (hW : (rest.map fun v => v.category).sum ≤ 8) (hdg : decode cc pc = .ok (.invokestatic index, 3)) (hrm : cells ≤ R.cells ∧ slots ≤ R.slots)
    (kk : ∀ (H1 : Heap) (locs1 : List Loc), va_P D cl w' H1 → va_D A0 w' → va_S A0 s.heap H1 locs1 → W p l e R s m args below meth c H1 locs1 cells slots Q (F0 m (pc + 3) ls (.int r :: rest))) :
    W p l e R s m args below meth c H locs cells slots Q (F0 m pc ls st0) := by
  subst hst
  have hFc : ∀ q, va_A w H.size q → A0 q := fun q h => by
    rcases h with ⟨k, e, hk⟩ | h
    · exact hD.2 k _ hk
    · exact hA q (Nat.le_trans hS.1 h)
  refine va_calli (va_runS (As := As) (rest := rest) S (hM H.size) cw ⟨pcU_blind, fun U hU hW => ⟨rfl, by rw [hU], by rw [hU]; exact hP, va_K.moved hW.alike hK, hD.weaken (fun _ _ _ _ => trivial)⟩⟩ rfl hn hsz rfl (lv_room hW) hdg hrm) hS (fun q _ h => hFc q h) hFc (fun r1 u t H1 locs1 ht hvm hw hB hz1 hk1 hS1 => ?_)
  obtain ⟨hP1, hK1, hD1⟩ := hB
  rw [ht] at hP1
  rw [hw]
  exact kk H1 locs1 hP1 (hD1.weaken (fun _ _ _ h => hFc _ h)) hS1
/-! lcmp and the branch behind it -/
variable {x y' : Int64} {off : Int} {tgt : Nat}
theorem lc_eq (hx : p.tables.exec = Jvm.exec) (hb : c.code = cc) (h1 : decode cc pc = .ok (.lcmp, 1)) (h2 : decode cc (pc + 1) = .ok (.ifCond .eq off, 3)) (ht : ((pc + 1 : Nat) : Int) + off = (tgt : Int)) (kt : x = y' → W p l e R s m args below meth c H locs cells slots Q (F0 m tgt ls rest)) (kf : ¬ x = y' → W p l e R s m args below meth c H locs cells slots Q (F0 m (pc + 1 + 3) ls rest)) : W p l e R s m args below meth c H locs cells slots Q (F0 m pc ls (.long y' :: .long x :: rest)) :=
  W.lcmp hx hb h1 (lv_if_eq hx hb h2 ht (fun h => kt ((lg_cmp_eq x y').mp h)) (fun h => kf (fun q => h ((lg_cmp_eq x y').mpr q))))
theorem lc_ne (hx : p.tables.exec = Jvm.exec) (hb : c.code = cc) (h1 : decode cc pc = .ok (.lcmp, 1)) (h2 : decode cc (pc + 1) = .ok (.ifCond .ne off, 3)) (ht : ((pc + 1 : Nat) : Int) + off = (tgt : Int)) (kt : ¬ x = y' → W p l e R s m args below meth c H locs cells slots Q (F0 m tgt ls rest)) (kf : x = y' → W p l e R s m args below meth c H locs cells slots Q (F0 m (pc + 1 + 3) ls rest)) : W p l e R s m args below meth c H locs cells slots Q (F0 m pc ls (.long y' :: .long x :: rest)) :=
  W.lcmp hx hb h1 (lv_if_ne hx hb h2 ht (fun h => kt (fun q => h ((lg_cmp_eq x y').mpr q))) (fun h => kf ((lg_cmp_eq x y').mp h)))
theorem lc_lt (hx : p.tables.exec = Jvm.exec) (hb : c.code = cc) (h1 : decode cc pc = .ok (.lcmp, 1)) (h2 : decode cc (pc + 1) = .ok (.ifCond .lt off, 3)) (ht : ((pc + 1 : Nat) : Int) + off = (tgt : Int)) (kt : x < y' → W p l e R s m args below meth c H locs cells slots Q (F0 m tgt ls rest)) (kf : ¬ x < y' → W p l e R s m args below meth c H locs cells slots Q (F0 m (pc + 1 + 3) ls rest)) : W p l e R s m args below meth c H locs cells slots Q (F0 m pc ls (.long y' :: .long x :: rest)) :=
  W.lcmp hx hb h1 (lv_if_lt hx hb h2 ht (fun h => kt ((lg_cmp_lt x y').mp h)) (fun h => kf (fun q => h ((lg_cmp_lt x y').mpr q))))
theorem lc_ge (hx : p.tables.exec = Jvm.exec) (hb : c.code = cc) (h1 : decode cc pc = .ok (.lcmp, 1)) (h2 : decode cc (pc + 1) = .ok (.ifCond .ge off, 3)) (ht : ((pc + 1 : Nat) : Int) + off = (tgt : Int)) (kt : y' ≤ x → W p l e R s m args below meth c H locs cells slots Q (F0 m tgt ls rest)) (kf : ¬ y' ≤ x → W p l e R s m args below meth c H locs cells slots Q (F0 m (pc + 1 + 3) ls rest)) : W p l e R s m args below meth c H locs cells slots Q (F0 m pc ls (.long y' :: .long x :: rest)) :=
  W.lcmp hx hb h1 (lv_if_ge hx hb h2 ht (fun h => kt ((lg_cmp_ge x y').mp h)) (fun h => kf (fun q => h ((lg_cmp_ge x y').mpr q))))
theorem lc_gt (hx : p.tables.exec = Jvm.exec) (hb : c.code = cc) (h1 : decode cc pc = .ok (.lcmp, 1)) (h2 : decode cc (pc + 1) = .ok (.ifCond .gt off, 3)) (ht : ((pc + 1 : Nat) : Int) + off = (tgt : Int)) (kt : y' < x → W p l e R s m args below meth c H locs cells slots Q (F0 m tgt ls rest)) (kf : ¬ y' < x → W p l e R s m args below meth c H locs cells slots Q (F0 m (pc + 1 + 3) ls rest)) : W p l e R s m args below meth c H locs cells slots Q (F0 m pc ls (.long y' :: .long x :: rest)) :=
  W.lcmp hx hb h1 (lv_if_gt hx hb h2 ht (fun h => kt ((lg_cmp_gt x y').mp h)) (fun h => kf (fun q => h ((lg_cmp_gt x y').mpr q))))
theorem lc_le (hx : p.tables.exec = Jvm.exec) (hb : c.code = cc) (h1 : decode cc pc = .ok (.lcmp, 1)) (h2 : decode cc (pc + 1) = .ok (.ifCond .le off, 3)) (ht : ((pc + 1 : Nat) : Int) + off = (tgt : Int)) (kt : x ≤ y' → W p l e R s m args below meth c H locs cells slots Q (F0 m tgt ls rest)) (kf : ¬ x ≤ y' → W p l e R s m args below meth c H locs cells slots Q (F0 m (pc + 1 + 3) ls rest)) : W p l e R s m args below meth c H locs cells slots Q (F0 m pc ls (.long y' :: .long x :: rest)) :=
  W.lcmp hx hb h1 (lv_if_le hx hb h2 ht (fun h => kt ((lg_cmp_le x y').mp h)) (fun h => kf (fun q => h ((lg_cmp_le x y').mpr q))))
theorem lv_eqi {x1 y1 : Int32} (h : x1 = y1) (k : W p l e R s m args below meth c H locs cells slots Q (F0 m pc ls (.int y1 :: rest))) : W p l e R s m args below meth c H locs cells slots Q (F0 m pc ls (.int x1 :: rest)) := h ▸ k
theorem lv_eql {x1 y1 : Int64} (h : x1 = y1) (k : W p l e R s m args below meth c H locs cells slots Q (F0 m pc ls (.long y1 :: rest))) : W p l e R s m args below meth c H locs cells slots Q (F0 m pc ls (.long x1 :: rest)) := h ▸ k
end UC
end
section
theorem tw_0 : Cond.selects R_V y_V_beginAgain y_V_beginAgain ∈ TB := inTB 0 (by decide +kernel) rfl
theorem tw_1 : Cond.selects R_S y_S_superblockStands y_S_superblockStands ∈ TB := inTB 1 (by decide +kernel) rfl
theorem tw_2 : Cond.selects R_S y_S_superblockHas y_S_superblockHas ∈ TB := inTB 2 (by decide +kernel) rfl
theorem tw_3 : Cond.selects R_S y_S_copiesStand y_S_copiesStand ∈ TB := inTB 3 (by decide +kernel) rfl
theorem tw_4 : Cond.selects R_S y_S_hasCopies y_S_hasCopies ∈ TB := inTB 4 (by decide +kernel) rfl
theorem tw_5 : Cond.selects R_S y_S_groupsStand y_S_groupsStand ∈ TB := inTB 5 (by decide +kernel) rfl
theorem tw_6 : Cond.selects R_S y_S_fix y_S_fix ∈ TB := inTB 6 (by decide +kernel) rfl
theorem tw_7 : Cond.selects R_S y_S_treeFault y_S_treeFault ∈ TB := inTB 7 (by decide +kernel) rfl
theorem tw_8 : Cond.selects R_S y_S_takeWhole y_S_takeWhole ∈ TB := inTB 8 (by decide +kernel) rfl
theorem tw_9 : Cond.selects R_S y_S_spareAreZero y_S_spareAreZero ∈ TB := inTB 9 (by decide +kernel) rfl
theorem tw_10 : Cond.selects R_S y_S_take y_S_take ∈ TB := inTB 10 (by decide +kernel) rfl
theorem tw_11 : Cond.selects R_S y_S_standInLine y_S_standInLine ∈ TB := inTB 11 (by decide +kernel) rfl
theorem tw_12 : Cond.selects R_S y_S_entriesStand y_S_entriesStand ∈ TB := inTB 12 (by decide +kernel) rfl
theorem tw_13 : Cond.selects R_S y_S_entryStands y_S_entryStands ∈ TB := inTB 13 (by decide +kernel) rfl
theorem tw_14 : Cond.selects R_S y_S_itemsComeUp y_S_itemsComeUp ∈ TB := inTB 14 (by decide +kernel) rfl
theorem tw_15 : Cond.selects R_S y_S_isKnown y_S_isKnown ∈ TB := inTB 15 (by decide +kernel) rfl
theorem tw_16 : Cond.selects R_S y_S_lateFault y_S_lateFault ∈ TB := inTB 16 (by decide +kernel) rfl
theorem tw_17 : Cond.selects R_S y_S_linksStand y_S_linksStand ∈ TB := inTB 17 (by decide +kernel) rfl
theorem tw_18 : Cond.selects R_S y_S_inodesStand y_S_inodesStand ∈ TB := inTB 18 (by decide +kernel) rfl
theorem tw_19 : Cond.selects R_S y_S_isBlank y_S_isBlank ∈ TB := inTB 19 (by decide +kernel) rfl
theorem tw_20 : Cond.selects R_S y_S_mapsStand y_S_mapsStand ∈ TB := inTB 20 (by decide +kernel) rfl
theorem tw_21 : Cond.selects R_S y_S_blockMapStands y_S_blockMapStands ∈ TB := inTB 21 (by decide +kernel) rfl
theorem tw_22 : Cond.selects R_S y_S_isTaken y_S_isTaken ∈ TB := inTB 22 (by decide +kernel) rfl
theorem tw_23 : Cond.selects R_S y_S_freeBlocks y_S_freeBlocks ∈ TB := inTB 23 (by decide +kernel) rfl
theorem tw_24 : Cond.selects R_S y_S_freeInodes y_S_freeInodes ∈ TB := inTB 24 (by decide +kernel) rfl
theorem tw_25 : Cond.selects R_S y_S_directories y_S_directories ∈ TB := inTB 25 (by decide +kernel) rfl
theorem tw_27 : Cond.selects R_V y_V_countItems y_V_countItems ∈ TB := inTB 27 (by decide +kernel) rfl
theorem tw_28 : Cond.selects R_V y_V_seekItem y_V_seekItem ∈ TB := inTB 28 (by decide +kernel) rfl
theorem tw_29 : Cond.selects R_V y_V_lastBlock y_V_lastBlock ∈ TB := inTB 29 (by decide +kernel) rfl
theorem tw_68 : Cond.initialized R_V ∈ TB := inTB 68 (by decide +kernel) rfl
theorem tw_69 : Cond.initialized R_D ∈ TB := inTB 69 (by decide +kernel) rfl
theorem tw_70 : Cond.initialized "java/lang/Math" ∈ TB := inTB 70 (by decide +kernel) rfl
theorem tw_71 : Cond.initialized R_L ∈ TB := inTB 71 (by decide +kernel) rfl
theorem tw_72 : Cond.initialized R_E ∈ TB := inTB 72 (by decide +kernel) rfl
theorem tw_73 : Cond.initialized R_S ∈ TB := inTB 73 (by decide +kernel) rfl
theorem tw_75 : Cond.initialized R_J ∈ TB := inTB 75 (by decide +kernel) rfl
theorem tw_79 : Cond.initialized "java/lang/IllegalStateException" ∈ TB := inTB 79 (by decide +kernel) rfl
theorem tw_80 : Cond.initialized "java/lang/IndexOutOfBoundsException" ∈ TB := inTB 80 (by decide +kernel) rfl
theorem tw_81 : Cond.initialized "java/lang/IllegalArgumentException" ∈ TB := inTB 81 (by decide +kernel) rfl
theorem tw_97 : Cond.static ⟨"java/lang/Math", "min", "(II)I"⟩ ∈ TB := inTB 97 (by decide +kernel) rfl
set_option maxRecDepth 100000 in
theorem tw_98 : Cond.code ⟨"java/lang/Math", "min", "(II)I"⟩ prog_12_method_69_code 2 (some .int) ∈ TB := inTB 98 rfl rfl
theorem tw_100 : Cond.static ⟨"java/lang/Math", "max", "(II)I"⟩ ∈ TB := inTB 100 (by decide +kernel) rfl
set_option maxRecDepth 100000 in
theorem tw_101 : Cond.code ⟨"java/lang/Math", "max", "(II)I"⟩ prog_12_method_65_code 2 (some .int) ∈ TB := inTB 101 rfl rfl
theorem tw_102 : Cond.fieldLink R_D 18 R_D "blocks" "I" ∈ TB := inTB 102 (by decide +kernel) rfl
theorem tw_103 : Cond.fieldLink R_D 24 R_D "size" "I" ∈ TB := inTB 103 (by decide +kernel) rfl
theorem tw_104 : Cond.fieldLink R_D 27 R_D "words" "[J" ∈ TB := inTB 104 (by decide +kernel) rfl
theorem tw_119 : Cond.fieldLink R_L 15 R_L "disk" "LInodeVolumes$Disk;" ∈ TB := inTB 119 (by decide +kernel) rfl
theorem tw_120 : Cond.fieldLink R_L 9 R_L "mapBlock" "[I" ∈ TB := inTB 120 (by decide +kernel) rfl
theorem tw_121 : Cond.fieldLink R_L 39 R_L "groupBlocks" "I" ∈ TB := inTB 121 (by decide +kernel) rfl
theorem tw_122 : Cond.fieldLink R_L 43 R_L "groupInodes" "I" ∈ TB := inTB 122 (by decide +kernel) rfl
theorem tw_123 : Cond.fieldLink R_L 50 R_L "groups" "I" ∈ TB := inTB 123 (by decide +kernel) rfl
theorem tw_124 : Cond.fieldLink R_L 53 R_L "inodes" "I" ∈ TB := inTB 124 (by decide +kernel) rfl
theorem tw_145 : Cond.fieldLink R_E 9 R_E "disk" "LInodeVolumes$Disk;" ∈ TB := inTB 145 (by decide +kernel) rfl
theorem tw_146 : Cond.fieldLink R_E 15 R_E "layout" "LInodeVolumes$Layout;" ∈ TB := inTB 146 (by decide +kernel) rfl
theorem tw_147 : Cond.fieldLink R_E 19 R_E "directory" "I" ∈ TB := inTB 147 (by decide +kernel) rfl
theorem tw_148 : Cond.fieldLink R_E 29 R_E "size" "J" ∈ TB := inTB 148 (by decide +kernel) rfl
theorem tw_149 : Cond.fieldLink R_E 33 R_E "offset" "J" ∈ TB := inTB 149 (by decide +kernel) rfl
theorem tw_150 : Cond.fieldLink R_E 36 R_E "order" "I" ∈ TB := inTB 150 (by decide +kernel) rfl
theorem tw_151 : Cond.fieldLink R_E 45 R_E "place" "J" ∈ TB := inTB 151 (by decide +kernel) rfl
theorem tw_152 : Cond.fieldLink R_E 54 R_E "head" "J" ∈ TB := inTB 152 (by decide +kernel) rfl
theorem tw_176 : Cond.fieldLink R_S 9 R_S "disk" "LInodeVolumes$Disk;" ∈ TB := inTB 176 (by decide +kernel) rfl
theorem tw_177 : Cond.fieldLink R_S 15 R_S "layout" "LInodeVolumes$Layout;" ∈ TB := inTB 177 (by decide +kernel) rfl
theorem tw_178 : Cond.fieldLink R_S 19 R_S "entries" "LInodeVolumes$Entries;" ∈ TB := inTB 178 (by decide +kernel) rfl
theorem tw_179 : Cond.fieldLink R_S 23 R_S "taken" "[I" ∈ TB := inTB 179 (by decide +kernel) rfl
theorem tw_180 : Cond.fieldLink R_S 27 R_S "known" "[I" ∈ TB := inTB 180 (by decide +kernel) rfl
theorem tw_181 : Cond.fieldLink R_S 30 R_S "line" "[I" ∈ TB := inTB 181 (by decide +kernel) rfl
theorem tw_182 : Cond.fieldLink R_S 33 R_S "parents" "[I" ∈ TB := inTB 182 (by decide +kernel) rfl
theorem tw_183 : Cond.fieldLink R_S 36 R_S "inside" "[I" ∈ TB := inTB 183 (by decide +kernel) rfl
theorem tw_184 : Cond.fieldLink R_S 134 R_S "came" "I" ∈ TB := inTB 184 (by decide +kernel) rfl
theorem tw_185 : Cond.fieldLink R_S 39 R_S "found" "I" ∈ TB := inTB 185 (by decide +kernel) rfl
theorem tw_207 : Cond.fieldLink R_V 14 R_V "disk" "LInodeVolumes$Disk;" ∈ TB := inTB 207 (by decide +kernel) rfl
theorem tw_208 : Cond.fieldLink R_V 23 R_V "layout" "LInodeVolumes$Layout;" ∈ TB := inTB 208 (by decide +kernel) rfl
theorem tw_209 : Cond.fieldLink R_V 32 R_V "entries" "LInodeVolumes$Entries;" ∈ TB := inTB 209 (by decide +kernel) rfl
theorem tw_210 : Cond.fieldLink R_V 41 R_V "survey" "LInodeVolumes$Survey;" ∈ TB := inTB 210 (by decide +kernel) rfl
theorem tw_211 : Cond.fieldLink R_V 45 R_V "here" "I" ∈ TB := inTB 211 (by decide +kernel) rfl
theorem tw_227 : Cond.methodLink R_V 49 y_D_holds ∈ TB := inTB 227 (by decide +kernel) rfl
theorem tw_228 : Cond.instanceMethod y_D_holds ∈ TB := inTB 228 (by decide +kernel) rfl
theorem tw_229 : Cond.selects R_D y_D_holds y_D_holds ∈ TB := inTB 229 (by decide +kernel) rfl
set_option maxRecDepth 100000 in
theorem tw_230 : Cond.code y_D_holds prog_2_method_3_code 4 (some .boolean) ∈ TB := inTB 230 rfl rfl
theorem tw_231 : Cond.methodLink R_V 53 y_D_set ∈ TB := inTB 231 (by decide +kernel) rfl
theorem tw_232 : Cond.instanceMethod y_D_set ∈ TB := inTB 232 (by decide +kernel) rfl
theorem tw_233 : Cond.selects R_D y_D_set y_D_set ∈ TB := inTB 233 (by decide +kernel) rfl
set_option maxRecDepth 100000 in
theorem tw_234 : Cond.code y_D_set prog_2_method_5_code 12 none ∈ TB := inTB 234 rfl rfl
theorem tw_235 : Cond.constantLong R_D 31 (7 : Int64) ∈ TB := inTB 235 (by decide +kernel) rfl
theorem tw_236 : Cond.constantLong R_D 33 (-1 : Int64) ∈ TB := inTB 236 (by decide +kernel) rfl
theorem tw_237 : Cond.methodLink R_V 57 y_V_beginAgain ∈ TB := inTB 237 (by decide +kernel) rfl
theorem tw_239 : Cond.instanceMethod y_V_beginAgain ∈ TB := inTB 239 (by decide +kernel) rfl
set_option maxRecDepth 100000 in
theorem tw_240 : Cond.code y_V_beginAgain prog_1_method_13_code 1 none ∈ TB := inTB 240 rfl rfl
theorem tw_241 : Cond.methodLink R_V 136 y_S_forget ∈ TB := inTB 241 (by decide +kernel) rfl
theorem tw_242 : Cond.instanceMethod y_S_forget ∈ TB := inTB 242 (by decide +kernel) rfl
theorem tw_243 : Cond.selects R_S y_S_forget y_S_forget ∈ TB := inTB 243 (by decide +kernel) rfl
set_option maxRecDepth 100000 in
theorem tw_244 : Cond.code y_S_forget prog_5_method_2_code 1 none ∈ TB := inTB 244 rfl rfl
theorem tw_249 : Cond.methodLink R_V 60 y_D_spread ∈ TB := inTB 249 (by decide +kernel) rfl
theorem tw_250 : Cond.instanceMethod y_D_spread ∈ TB := inTB 250 (by decide +kernel) rfl
theorem tw_251 : Cond.selects R_D y_D_spread y_D_spread ∈ TB := inTB 251 (by decide +kernel) rfl
set_option maxRecDepth 100000 in
theorem tw_252 : Cond.code y_D_spread prog_2_method_6_code 7 none ∈ TB := inTB 252 rfl rfl
theorem tw_253 : Cond.constantLong R_D 35 (72340172838076673 : Int64) ∈ TB := inTB 253 (by decide +kernel) rfl
theorem tw_254 : Cond.methodLink R_D 37 y_D_set ∈ TB := inTB 254 (by decide +kernel) rfl
theorem tw_259 : Cond.methodLink R_V 64 y_D_move ∈ TB := inTB 259 (by decide +kernel) rfl
theorem tw_260 : Cond.instanceMethod y_D_move ∈ TB := inTB 260 (by decide +kernel) rfl
theorem tw_261 : Cond.selects R_D y_D_move y_D_move ∈ TB := inTB 261 (by decide +kernel) rfl
set_option maxRecDepth 100000 in
theorem tw_262 : Cond.code y_D_move prog_2_method_7_code 5 none ∈ TB := inTB 262 rfl rfl
theorem tw_263 : Cond.methodLink R_D 41 y_D_number ∈ TB := inTB 263 (by decide +kernel) rfl
theorem tw_264 : Cond.instanceMethod y_D_number ∈ TB := inTB 264 (by decide +kernel) rfl
theorem tw_265 : Cond.selects R_D y_D_number y_D_number ∈ TB := inTB 265 (by decide +kernel) rfl
set_option maxRecDepth 100000 in
theorem tw_266 : Cond.code y_D_number prog_2_method_4_code 8 (some .long) ∈ TB := inTB 266 rfl rfl
theorem tw_271 : Cond.methodLink R_V 67 y_D_number ∈ TB := inTB 271 (by decide +kernel) rfl
theorem tw_276 : Cond.methodLink R_V 71 y_S_firstFault ∈ TB := inTB 276 (by decide +kernel) rfl
theorem tw_277 : Cond.instanceMethod y_S_firstFault ∈ TB := inTB 277 (by decide +kernel) rfl
theorem tw_278 : Cond.selects R_S y_S_firstFault y_S_firstFault ∈ TB := inTB 278 (by decide +kernel) rfl
set_option maxRecDepth 100000 in
theorem tw_279 : Cond.code y_S_firstFault prog_5_method_3_code 1 (some .int) ∈ TB := inTB 279 rfl rfl
theorem tw_280 : Cond.methodLink R_S 43 y_S_superblockStands ∈ TB := inTB 280 (by decide +kernel) rfl
theorem tw_282 : Cond.instanceMethod y_S_superblockStands ∈ TB := inTB 282 (by decide +kernel) rfl
set_option maxRecDepth 100000 in
theorem tw_283 : Cond.code y_S_superblockStands prog_5_method_4_code 1 (some .boolean) ∈ TB := inTB 283 rfl rfl
theorem tw_284 : Cond.methodLink R_S 60 y_L_readGroups ∈ TB := inTB 284 (by decide +kernel) rfl
theorem tw_285 : Cond.instanceMethod y_L_readGroups ∈ TB := inTB 285 (by decide +kernel) rfl
theorem tw_286 : Cond.selects R_L y_L_readGroups y_L_readGroups ∈ TB := inTB 286 (by decide +kernel) rfl
set_option maxRecDepth 100000 in
theorem tw_287 : Cond.code y_L_readGroups prog_4_method_2_code 5 (some .boolean) ∈ TB := inTB 287 rfl rfl
theorem tw_288 : Cond.constantLong R_L 19 (1056 : Int64) ∈ TB := inTB 288 (by decide +kernel) rfl
theorem tw_289 : Cond.methodLink R_L 21 y_D_number ∈ TB := inTB 289 (by decide +kernel) rfl
theorem tw_290 : Cond.constantLong R_L 27 (1064 : Int64) ∈ TB := inTB 290 (by decide +kernel) rfl
theorem tw_291 : Cond.constantLong R_L 29 (64 : Int64) ∈ TB := inTB 291 (by decide +kernel) rfl
theorem tw_292 : Cond.constantLong R_L 31 (128 : Int64) ∈ TB := inTB 292 (by decide +kernel) rfl
theorem tw_293 : Cond.constantLong R_L 33 (256 : Int64) ∈ TB := inTB 293 (by decide +kernel) rfl
theorem tw_294 : Cond.constantLong R_L 35 (8 : Int64) ∈ TB := inTB 294 (by decide +kernel) rfl
theorem tw_295 : Cond.constantLong R_L 37 (8192 : Int64) ∈ TB := inTB 295 (by decide +kernel) rfl
theorem tw_296 : Cond.methodLink R_L 46 y_D_blocks ∈ TB := inTB 296 (by decide +kernel) rfl
theorem tw_297 : Cond.instanceMethod y_D_blocks ∈ TB := inTB 297 (by decide +kernel) rfl
theorem tw_298 : Cond.selects R_D y_D_blocks y_D_blocks ∈ TB := inTB 298 (by decide +kernel) rfl
set_option maxRecDepth 100000 in
theorem tw_299 : Cond.code y_D_blocks prog_2_method_2_code 1 (some .int) ∈ TB := inTB 299 rfl rfl
theorem tw_300 : Cond.methodLink R_S 65 y_L_inodes ∈ TB := inTB 300 (by decide +kernel) rfl
theorem tw_301 : Cond.instanceMethod y_L_inodes ∈ TB := inTB 301 (by decide +kernel) rfl
theorem tw_302 : Cond.selects R_L y_L_inodes y_L_inodes ∈ TB := inTB 302 (by decide +kernel) rfl
set_option maxRecDepth 100000 in
theorem tw_303 : Cond.code y_L_inodes prog_4_method_7_code 1 (some .int) ∈ TB := inTB 303 rfl rfl
theorem tw_304 : Cond.methodLink R_S 68 y_S_superblockHas ∈ TB := inTB 304 (by decide +kernel) rfl
theorem tw_306 : Cond.instanceMethod y_S_superblockHas ∈ TB := inTB 306 (by decide +kernel) rfl
set_option maxRecDepth 100000 in
theorem tw_307 : Cond.code y_S_superblockHas prog_5_method_5_code 5 (some .boolean) ∈ TB := inTB 307 rfl rfl
theorem tw_308 : Cond.methodLink R_S 88 y_D_number ∈ TB := inTB 308 (by decide +kernel) rfl
theorem tw_309 : Cond.methodLink R_S 72 y_D_blocks ∈ TB := inTB 309 (by decide +kernel) rfl
theorem tw_310 : Cond.methodLink R_S 77 y_L_groupBlocks ∈ TB := inTB 310 (by decide +kernel) rfl
theorem tw_311 : Cond.instanceMethod y_L_groupBlocks ∈ TB := inTB 311 (by decide +kernel) rfl
theorem tw_312 : Cond.selects R_L y_L_groupBlocks y_L_groupBlocks ∈ TB := inTB 312 (by decide +kernel) rfl
set_option maxRecDepth 100000 in
theorem tw_313 : Cond.code y_L_groupBlocks prog_4_method_5_code 1 (some .int) ∈ TB := inTB 313 rfl rfl
theorem tw_314 : Cond.constantLong R_S 80 (61267 : Int64) ∈ TB := inTB 314 (by decide +kernel) rfl
theorem tw_315 : Cond.constantLong R_S 82 (11 : Int64) ∈ TB := inTB 315 (by decide +kernel) rfl
theorem tw_316 : Cond.constantLong R_S 84 (128 : Int64) ∈ TB := inTB 316 (by decide +kernel) rfl
theorem tw_317 : Cond.constantLong R_S 86 (2 : Int64) ∈ TB := inTB 317 (by decide +kernel) rfl
theorem tw_318 : Cond.methodLink R_S 47 y_S_copiesStand ∈ TB := inTB 318 (by decide +kernel) rfl
theorem tw_320 : Cond.instanceMethod y_S_copiesStand ∈ TB := inTB 320 (by decide +kernel) rfl
set_option maxRecDepth 100000 in
theorem tw_321 : Cond.code y_S_copiesStand prog_5_method_6_code 2 (some .boolean) ∈ TB := inTB 321 rfl rfl
theorem tw_322 : Cond.methodLink R_S 92 y_L_groups ∈ TB := inTB 322 (by decide +kernel) rfl
theorem tw_323 : Cond.instanceMethod y_L_groups ∈ TB := inTB 323 (by decide +kernel) rfl
theorem tw_324 : Cond.selects R_L y_L_groups y_L_groups ∈ TB := inTB 324 (by decide +kernel) rfl
set_option maxRecDepth 100000 in
theorem tw_325 : Cond.code y_L_groups prog_4_method_4_code 1 (some .int) ∈ TB := inTB 325 rfl rfl
theorem tw_326 : Cond.methodLink R_S 95 y_L_blocksOf ∈ TB := inTB 326 (by decide +kernel) rfl
theorem tw_327 : Cond.instanceMethod y_L_blocksOf ∈ TB := inTB 327 (by decide +kernel) rfl
theorem tw_328 : Cond.selects R_L y_L_blocksOf y_L_blocksOf ∈ TB := inTB 328 (by decide +kernel) rfl
set_option maxRecDepth 100000 in
theorem tw_329 : Cond.code y_L_blocksOf prog_4_method_9_code 2 (some .int) ∈ TB := inTB 329 rfl rfl
theorem tw_330 : Cond.methodLink R_L 56 y_L_firstBlock ∈ TB := inTB 330 (by decide +kernel) rfl
theorem tw_331 : Cond.instanceMethod y_L_firstBlock ∈ TB := inTB 331 (by decide +kernel) rfl
theorem tw_332 : Cond.selects R_L y_L_firstBlock y_L_firstBlock ∈ TB := inTB 332 (by decide +kernel) rfl
set_option maxRecDepth 100000 in
theorem tw_333 : Cond.code y_L_firstBlock prog_4_method_8_code 2 (some .int) ∈ TB := inTB 333 rfl rfl
theorem tw_334 : Cond.methodLink R_L 60 ⟨"java/lang/Math", "min", "(II)I"⟩ ∈ TB := inTB 334 (by decide +kernel) rfl
theorem tw_335 : Cond.methodLink R_S 99 y_S_hasCopies ∈ TB := inTB 335 (by decide +kernel) rfl
theorem tw_337 : Cond.instanceMethod y_S_hasCopies ∈ TB := inTB 337 (by decide +kernel) rfl
set_option maxRecDepth 100000 in
theorem tw_338 : Cond.code y_S_hasCopies prog_5_method_7_code 7 (some .boolean) ∈ TB := inTB 338 rfl rfl
theorem tw_339 : Cond.constantLong R_S 103 (1024 : Int64) ∈ TB := inTB 339 (by decide +kernel) rfl
theorem tw_340 : Cond.methodLink R_S 105 y_L_firstBlock ∈ TB := inTB 340 (by decide +kernel) rfl
theorem tw_341 : Cond.methodLink R_S 50 y_S_groupsStand ∈ TB := inTB 341 (by decide +kernel) rfl
theorem tw_343 : Cond.instanceMethod y_S_groupsStand ∈ TB := inTB 343 (by decide +kernel) rfl
set_option maxRecDepth 100000 in
theorem tw_344 : Cond.code y_S_groupsStand prog_5_method_8_code 7 (some .boolean) ∈ TB := inTB 344 rfl rfl
theorem tw_345 : Cond.methodLink R_S 108 y_J_fill ∈ TB := inTB 345 (by decide +kernel) rfl
theorem tw_346 : Cond.static y_J_fill ∈ TB := inTB 346 (by decide +kernel) rfl
set_option maxRecDepth 100000 in
theorem tw_347 : Cond.code y_J_fill prog_16_method_103_code 4 none ∈ TB := inTB 347 rfl rfl
theorem tw_348 : Cond.methodLink R_S 114 y_L_groupInodes ∈ TB := inTB 348 (by decide +kernel) rfl
theorem tw_349 : Cond.instanceMethod y_L_groupInodes ∈ TB := inTB 349 (by decide +kernel) rfl
theorem tw_350 : Cond.selects R_L y_L_groupInodes y_L_groupInodes ∈ TB := inTB 350 (by decide +kernel) rfl
set_option maxRecDepth 100000 in
theorem tw_351 : Cond.code y_L_groupInodes prog_4_method_6_code 1 (some .int) ∈ TB := inTB 351 rfl rfl
theorem tw_352 : Cond.methodLink R_S 117 y_L_described ∈ TB := inTB 352 (by decide +kernel) rfl
theorem tw_353 : Cond.instanceMethod y_L_described ∈ TB := inTB 353 (by decide +kernel) rfl
theorem tw_354 : Cond.selects R_L y_L_described y_L_described ∈ TB := inTB 354 (by decide +kernel) rfl
set_option maxRecDepth 100000 in
theorem tw_355 : Cond.code y_L_described prog_4_method_10_code 4 (some .long) ∈ TB := inTB 355 rfl rfl
theorem tw_356 : Cond.methodLink R_S 121 y_L_setMap ∈ TB := inTB 356 (by decide +kernel) rfl
theorem tw_357 : Cond.instanceMethod y_L_setMap ∈ TB := inTB 357 (by decide +kernel) rfl
theorem tw_358 : Cond.selects R_L y_L_setMap y_L_setMap ∈ TB := inTB 358 (by decide +kernel) rfl
set_option maxRecDepth 100000 in
theorem tw_359 : Cond.code y_L_setMap prog_4_method_3_code 3 none ∈ TB := inTB 359 rfl rfl
theorem tw_360 : Cond.methodLink R_S 125 y_S_fix ∈ TB := inTB 360 (by decide +kernel) rfl
theorem tw_362 : Cond.instanceMethod y_S_fix ∈ TB := inTB 362 (by decide +kernel) rfl
set_option maxRecDepth 100000 in
theorem tw_363 : Cond.code y_S_fix prog_5_method_9_code 4 none ∈ TB := inTB 363 rfl rfl
theorem tw_364 : Cond.methodLink R_S 128 ⟨"java/lang/Math", "max", "(II)I"⟩ ∈ TB := inTB 364 (by decide +kernel) rfl
theorem tw_365 : Cond.methodLink R_S 53 y_S_treeFault ∈ TB := inTB 365 (by decide +kernel) rfl
theorem tw_367 : Cond.instanceMethod y_S_treeFault ∈ TB := inTB 367 (by decide +kernel) rfl
set_option maxRecDepth 100000 in
theorem tw_368 : Cond.code y_S_treeFault prog_5_method_10_code 2 (some .int) ∈ TB := inTB 368 rfl rfl
theorem tw_369 : Cond.methodLink R_S 137 y_L_isUsed ∈ TB := inTB 369 (by decide +kernel) rfl
theorem tw_370 : Cond.instanceMethod y_L_isUsed ∈ TB := inTB 370 (by decide +kernel) rfl
theorem tw_371 : Cond.selects R_L y_L_isUsed y_L_isUsed ∈ TB := inTB 371 (by decide +kernel) rfl
set_option maxRecDepth 100000 in
theorem tw_372 : Cond.code y_L_isUsed prog_4_method_15_code 4 (some .boolean) ∈ TB := inTB 372 rfl rfl
theorem tw_373 : Cond.methodLink R_L 74 y_L_groupOf ∈ TB := inTB 373 (by decide +kernel) rfl
theorem tw_374 : Cond.instanceMethod y_L_groupOf ∈ TB := inTB 374 (by decide +kernel) rfl
theorem tw_375 : Cond.selects R_L y_L_groupOf y_L_groupOf ∈ TB := inTB 375 (by decide +kernel) rfl
set_option maxRecDepth 100000 in
theorem tw_376 : Cond.code y_L_groupOf prog_4_method_13_code 2 (some .int) ∈ TB := inTB 376 rfl rfl
theorem tw_377 : Cond.constantLong R_L 66 (1024 : Int64) ∈ TB := inTB 377 (by decide +kernel) rfl
theorem tw_378 : Cond.methodLink R_S 140 y_L_typeOf ∈ TB := inTB 378 (by decide +kernel) rfl
theorem tw_379 : Cond.instanceMethod y_L_typeOf ∈ TB := inTB 379 (by decide +kernel) rfl
theorem tw_380 : Cond.selects R_L y_L_typeOf y_L_typeOf ∈ TB := inTB 380 (by decide +kernel) rfl
set_option maxRecDepth 100000 in
theorem tw_381 : Cond.code y_L_typeOf prog_4_method_18_code 2 (some .int) ∈ TB := inTB 381 rfl rfl
theorem tw_382 : Cond.methodLink R_L 77 y_L_inodePlace ∈ TB := inTB 382 (by decide +kernel) rfl
theorem tw_383 : Cond.instanceMethod y_L_inodePlace ∈ TB := inTB 383 (by decide +kernel) rfl
theorem tw_384 : Cond.selects R_L y_L_inodePlace y_L_inodePlace ∈ TB := inTB 384 (by decide +kernel) rfl
set_option maxRecDepth 100000 in
theorem tw_385 : Cond.code y_L_inodePlace prog_4_method_16_code 3 (some .long) ∈ TB := inTB 385 rfl rfl
theorem tw_386 : Cond.constantLong R_L 68 (-1024 : Int64) ∈ TB := inTB 386 (by decide +kernel) rfl
theorem tw_387 : Cond.constant R_L 80 (61440 : Int32) ∈ TB := inTB 387 (by decide +kernel) rfl
theorem tw_388 : Cond.methodLink R_S 143 y_S_takeWhole ∈ TB := inTB 388 (by decide +kernel) rfl
theorem tw_390 : Cond.instanceMethod y_S_takeWhole ∈ TB := inTB 390 (by decide +kernel) rfl
set_option maxRecDepth 100000 in
theorem tw_391 : Cond.code y_S_takeWhole prog_5_method_13_code 10 (some .boolean) ∈ TB := inTB 391 rfl rfl
theorem tw_392 : Cond.methodLink R_S 156 y_L_sizeOf ∈ TB := inTB 392 (by decide +kernel) rfl
theorem tw_393 : Cond.instanceMethod y_L_sizeOf ∈ TB := inTB 393 (by decide +kernel) rfl
theorem tw_394 : Cond.selects R_L y_L_sizeOf y_L_sizeOf ∈ TB := inTB 394 (by decide +kernel) rfl
set_option maxRecDepth 100000 in
theorem tw_395 : Cond.code y_L_sizeOf prog_4_method_19_code 2 (some .long) ∈ TB := inTB 395 rfl rfl
theorem tw_396 : Cond.constantLong R_L 81 (4 : Int64) ∈ TB := inTB 396 (by decide +kernel) rfl
theorem tw_397 : Cond.methodLink R_S 160 y_L_blocksFor ∈ TB := inTB 397 (by decide +kernel) rfl
theorem tw_398 : Cond.instanceMethod y_L_blocksFor ∈ TB := inTB 398 (by decide +kernel) rfl
theorem tw_399 : Cond.selects R_L y_L_blocksFor y_L_blocksFor ∈ TB := inTB 399 (by decide +kernel) rfl
set_option maxRecDepth 100000 in
theorem tw_400 : Cond.code y_L_blocksFor prog_4_method_20_code 3 (some .int) ∈ TB := inTB 400 rfl rfl
theorem tw_401 : Cond.methodLink R_S 164 y_L_field ∈ TB := inTB 401 (by decide +kernel) rfl
theorem tw_402 : Cond.instanceMethod y_L_field ∈ TB := inTB 402 (by decide +kernel) rfl
theorem tw_403 : Cond.selects R_L y_L_field y_L_field ∈ TB := inTB 403 (by decide +kernel) rfl
set_option maxRecDepth 100000 in
theorem tw_404 : Cond.code y_L_field prog_4_method_17_code 4 (some .long) ∈ TB := inTB 404 rfl rfl
theorem tw_405 : Cond.methodLink R_S 167 y_S_spareAreZero ∈ TB := inTB 405 (by decide +kernel) rfl
theorem tw_407 : Cond.instanceMethod y_S_spareAreZero ∈ TB := inTB 407 (by decide +kernel) rfl
set_option maxRecDepth 100000 in
theorem tw_408 : Cond.code y_S_spareAreZero prog_5_method_14_code 6 (some .boolean) ∈ TB := inTB 408 rfl rfl
theorem tw_409 : Cond.methodLink R_S 178 y_L_inodePlace ∈ TB := inTB 409 (by decide +kernel) rfl
theorem tw_410 : Cond.constantLong R_S 181 (40 : Int64) ∈ TB := inTB 410 (by decide +kernel) rfl
theorem tw_411 : Cond.constantLong R_S 183 (88 : Int64) ∈ TB := inTB 411 (by decide +kernel) rfl
theorem tw_412 : Cond.constantLong R_S 185 (92 : Int64) ∈ TB := inTB 412 (by decide +kernel) rfl
theorem tw_413 : Cond.constantLong R_S 187 (96 : Int64) ∈ TB := inTB 413 (by decide +kernel) rfl
theorem tw_414 : Cond.methodLink R_S 170 y_S_take ∈ TB := inTB 414 (by decide +kernel) rfl
theorem tw_416 : Cond.instanceMethod y_S_take ∈ TB := inTB 416 (by decide +kernel) rfl
set_option maxRecDepth 100000 in
theorem tw_417 : Cond.code y_S_take prog_5_method_15_code 4 (some .boolean) ∈ TB := inTB 417 rfl rfl
theorem tw_418 : Cond.methodLink R_S 174 y_L_blockOf ∈ TB := inTB 418 (by decide +kernel) rfl
theorem tw_419 : Cond.instanceMethod y_L_blockOf ∈ TB := inTB 419 (by decide +kernel) rfl
theorem tw_420 : Cond.selects R_L y_L_blockOf y_L_blockOf ∈ TB := inTB 420 (by decide +kernel) rfl
set_option maxRecDepth 100000 in
theorem tw_421 : Cond.code y_L_blockOf prog_4_method_21_code 10 (some .long) ∈ TB := inTB 421 rfl rfl
theorem tw_422 : Cond.constantLong R_L 83 (40 : Int64) ∈ TB := inTB 422 (by decide +kernel) rfl
theorem tw_423 : Cond.constantLong R_L 85 (88 : Int64) ∈ TB := inTB 423 (by decide +kernel) rfl
theorem tw_424 : Cond.constantLong R_L 87 (92 : Int64) ∈ TB := inTB 424 (by decide +kernel) rfl
theorem tw_425 : Cond.methodLink R_S 146 y_S_standInLine ∈ TB := inTB 425 (by decide +kernel) rfl
theorem tw_427 : Cond.instanceMethod y_S_standInLine ∈ TB := inTB 427 (by decide +kernel) rfl
set_option maxRecDepth 100000 in
theorem tw_428 : Cond.code y_S_standInLine prog_5_method_11_code 3 none ∈ TB := inTB 428 rfl rfl
theorem tw_429 : Cond.methodLink R_S 149 y_S_entriesStand ∈ TB := inTB 429 (by decide +kernel) rfl
theorem tw_431 : Cond.instanceMethod y_S_entriesStand ∈ TB := inTB 431 (by decide +kernel) rfl
set_option maxRecDepth 100000 in
theorem tw_432 : Cond.code y_S_entriesStand prog_5_method_16_code 6 (some .boolean) ∈ TB := inTB 432 rfl rfl
theorem tw_433 : Cond.methodLink R_S 189 y_E_start ∈ TB := inTB 433 (by decide +kernel) rfl
theorem tw_434 : Cond.instanceMethod y_E_start ∈ TB := inTB 434 (by decide +kernel) rfl
theorem tw_435 : Cond.selects R_E y_E_start y_E_start ∈ TB := inTB 435 (by decide +kernel) rfl
set_option maxRecDepth 100000 in
theorem tw_436 : Cond.code y_E_start prog_3_method_2_code 2 none ∈ TB := inTB 436 rfl rfl
theorem tw_437 : Cond.methodLink R_E 23 y_L_sizeOf ∈ TB := inTB 437 (by decide +kernel) rfl
theorem tw_438 : Cond.constantLong R_E 39 (1024 : Int64) ∈ TB := inTB 438 (by decide +kernel) rfl
theorem tw_439 : Cond.methodLink R_E 41 y_L_blockOf ∈ TB := inTB 439 (by decide +kernel) rfl
theorem tw_440 : Cond.methodLink R_E 48 y_D_number ∈ TB := inTB 440 (by decide +kernel) rfl
theorem tw_441 : Cond.constant R_S 195 (43691 : Int32) ∈ TB := inTB 441 (by decide +kernel) rfl
theorem tw_442 : Cond.methodLink R_S 196 y_E_isOn ∈ TB := inTB 442 (by decide +kernel) rfl
theorem tw_443 : Cond.instanceMethod y_E_isOn ∈ TB := inTB 443 (by decide +kernel) rfl
theorem tw_444 : Cond.selects R_E y_E_isOn y_E_isOn ∈ TB := inTB 444 (by decide +kernel) rfl
set_option maxRecDepth 100000 in
theorem tw_445 : Cond.code y_E_isOn prog_3_method_3_code 1 (some .boolean) ∈ TB := inTB 445 rfl rfl
theorem tw_446 : Cond.methodLink R_S 199 y_E_fits ∈ TB := inTB 446 (by decide +kernel) rfl
theorem tw_447 : Cond.instanceMethod y_E_fits ∈ TB := inTB 447 (by decide +kernel) rfl
theorem tw_448 : Cond.selects R_E y_E_fits y_E_fits ∈ TB := inTB 448 (by decide +kernel) rfl
set_option maxRecDepth 100000 in
theorem tw_449 : Cond.code y_E_fits prog_3_method_14_code 2 (some .boolean) ∈ TB := inTB 449 rfl rfl
theorem tw_450 : Cond.methodLink R_E 57 y_E_length ∈ TB := inTB 450 (by decide +kernel) rfl
theorem tw_451 : Cond.instanceMethod y_E_length ∈ TB := inTB 451 (by decide +kernel) rfl
theorem tw_452 : Cond.selects R_E y_E_length y_E_length ∈ TB := inTB 452 (by decide +kernel) rfl
set_option maxRecDepth 100000 in
theorem tw_453 : Cond.code y_E_length prog_3_method_8_code 1 (some .int) ∈ TB := inTB 453 rfl rfl
theorem tw_454 : Cond.constant R_E 73 (65535 : Int32) ∈ TB := inTB 454 (by decide +kernel) rfl
theorem tw_455 : Cond.methodLink R_S 202 y_E_isEmpty ∈ TB := inTB 455 (by decide +kernel) rfl
theorem tw_456 : Cond.instanceMethod y_E_isEmpty ∈ TB := inTB 456 (by decide +kernel) rfl
theorem tw_457 : Cond.selects R_E y_E_isEmpty y_E_isEmpty ∈ TB := inTB 457 (by decide +kernel) rfl
set_option maxRecDepth 100000 in
theorem tw_458 : Cond.code y_E_isEmpty prog_3_method_12_code 1 (some .boolean) ∈ TB := inTB 458 rfl rfl
theorem tw_459 : Cond.constantLong R_E 67 (4294967295 : Int64) ∈ TB := inTB 459 (by decide +kernel) rfl
theorem tw_460 : Cond.methodLink R_S 205 y_S_entryStands ∈ TB := inTB 460 (by decide +kernel) rfl
theorem tw_462 : Cond.instanceMethod y_S_entryStands ∈ TB := inTB 462 (by decide +kernel) rfl
set_option maxRecDepth 100000 in
theorem tw_463 : Cond.code y_S_entryStands prog_5_method_17_code 5 (some .boolean) ∈ TB := inTB 463 rfl rfl
theorem tw_464 : Cond.methodLink R_S 214 y_E_hasInode ∈ TB := inTB 464 (by decide +kernel) rfl
theorem tw_465 : Cond.instanceMethod y_E_hasInode ∈ TB := inTB 465 (by decide +kernel) rfl
theorem tw_466 : Cond.selects R_E y_E_hasInode y_E_hasInode ∈ TB := inTB 466 (by decide +kernel) rfl
set_option maxRecDepth 100000 in
theorem tw_467 : Cond.code y_E_hasInode prog_3_method_7_code 1 (some .boolean) ∈ TB := inTB 467 rfl rfl
theorem tw_468 : Cond.methodLink R_E 69 y_L_isInode ∈ TB := inTB 468 (by decide +kernel) rfl
theorem tw_469 : Cond.instanceMethod y_L_isInode ∈ TB := inTB 469 (by decide +kernel) rfl
theorem tw_470 : Cond.selects R_L y_L_isInode y_L_isInode ∈ TB := inTB 470 (by decide +kernel) rfl
set_option maxRecDepth 100000 in
theorem tw_471 : Cond.code y_L_isInode prog_4_method_14_code 3 (some .boolean) ∈ TB := inTB 471 rfl rfl
theorem tw_472 : Cond.methodLink R_S 217 y_E_hasName ∈ TB := inTB 472 (by decide +kernel) rfl
theorem tw_473 : Cond.instanceMethod y_E_hasName ∈ TB := inTB 473 (by decide +kernel) rfl
theorem tw_474 : Cond.selects R_E y_E_hasName y_E_hasName ∈ TB := inTB 474 (by decide +kernel) rfl
set_option maxRecDepth 100000 in
theorem tw_475 : Cond.code y_E_hasName prog_3_method_15_code 5 (some .boolean) ∈ TB := inTB 475 rfl rfl
theorem tw_476 : Cond.methodLink R_E 76 y_E_nameLength ∈ TB := inTB 476 (by decide +kernel) rfl
theorem tw_477 : Cond.instanceMethod y_E_nameLength ∈ TB := inTB 477 (by decide +kernel) rfl
theorem tw_478 : Cond.selects R_E y_E_nameLength y_E_nameLength ∈ TB := inTB 478 (by decide +kernel) rfl
set_option maxRecDepth 100000 in
theorem tw_479 : Cond.code y_E_nameLength prog_3_method_9_code 1 (some .int) ∈ TB := inTB 479 rfl rfl
theorem tw_480 : Cond.constantLong R_E 74 (8 : Int64) ∈ TB := inTB 480 (by decide +kernel) rfl
theorem tw_481 : Cond.constantLong R_E 79 (47 : Int64) ∈ TB := inTB 481 (by decide +kernel) rfl
theorem tw_482 : Cond.methodLink R_S 220 y_E_inode ∈ TB := inTB 482 (by decide +kernel) rfl
theorem tw_483 : Cond.instanceMethod y_E_inode ∈ TB := inTB 483 (by decide +kernel) rfl
theorem tw_484 : Cond.selects R_E y_E_inode y_E_inode ∈ TB := inTB 484 (by decide +kernel) rfl
set_option maxRecDepth 100000 in
theorem tw_485 : Cond.code y_E_inode prog_3_method_6_code 1 (some .int) ∈ TB := inTB 485 rfl rfl
theorem tw_486 : Cond.methodLink R_S 211 y_E_order ∈ TB := inTB 486 (by decide +kernel) rfl
theorem tw_487 : Cond.instanceMethod y_E_order ∈ TB := inTB 487 (by decide +kernel) rfl
theorem tw_488 : Cond.selects R_E y_E_order y_E_order ∈ TB := inTB 488 (by decide +kernel) rfl
set_option maxRecDepth 100000 in
theorem tw_489 : Cond.code y_E_order prog_3_method_5_code 1 (some .int) ∈ TB := inTB 489 rfl rfl
theorem tw_490 : Cond.methodLink R_S 223 y_E_isOneDot ∈ TB := inTB 490 (by decide +kernel) rfl
theorem tw_491 : Cond.instanceMethod y_E_isOneDot ∈ TB := inTB 491 (by decide +kernel) rfl
theorem tw_492 : Cond.selects R_E y_E_isOneDot y_E_isOneDot ∈ TB := inTB 492 (by decide +kernel) rfl
set_option maxRecDepth 100000 in
theorem tw_493 : Cond.code y_E_isOneDot prog_3_method_16_code 1 (some .boolean) ∈ TB := inTB 493 rfl rfl
theorem tw_494 : Cond.constantLong R_E 81 (46 : Int64) ∈ TB := inTB 494 (by decide +kernel) rfl
theorem tw_495 : Cond.methodLink R_S 226 y_E_mark ∈ TB := inTB 495 (by decide +kernel) rfl
theorem tw_496 : Cond.instanceMethod y_E_mark ∈ TB := inTB 496 (by decide +kernel) rfl
theorem tw_497 : Cond.selects R_E y_E_mark y_E_mark ∈ TB := inTB 497 (by decide +kernel) rfl
set_option maxRecDepth 100000 in
theorem tw_498 : Cond.code y_E_mark prog_3_method_10_code 1 (some .int) ∈ TB := inTB 498 rfl rfl
theorem tw_499 : Cond.methodLink R_S 229 y_E_isTwoDots ∈ TB := inTB 499 (by decide +kernel) rfl
theorem tw_500 : Cond.instanceMethod y_E_isTwoDots ∈ TB := inTB 500 (by decide +kernel) rfl
theorem tw_501 : Cond.selects R_E y_E_isTwoDots y_E_isTwoDots ∈ TB := inTB 501 (by decide +kernel) rfl
set_option maxRecDepth 100000 in
theorem tw_502 : Cond.code y_E_isTwoDots prog_3_method_17_code 1 (some .boolean) ∈ TB := inTB 502 rfl rfl
theorem tw_503 : Cond.constantLong R_E 83 (11822 : Int64) ∈ TB := inTB 503 (by decide +kernel) rfl
theorem tw_504 : Cond.constant R_S 232 (32768 : Int32) ∈ TB := inTB 504 (by decide +kernel) rfl
theorem tw_505 : Cond.methodLink R_S 208 y_E_advance ∈ TB := inTB 505 (by decide +kernel) rfl
theorem tw_506 : Cond.instanceMethod y_E_advance ∈ TB := inTB 506 (by decide +kernel) rfl
theorem tw_507 : Cond.selects R_E y_E_advance y_E_advance ∈ TB := inTB 507 (by decide +kernel) rfl
set_option maxRecDepth 100000 in
theorem tw_508 : Cond.code y_E_advance prog_3_method_4_code 1 none ∈ TB := inTB 508 rfl rfl
theorem tw_509 : Cond.methodLink R_E 61 ⟨"java/lang/Math", "max", "(II)I"⟩ ∈ TB := inTB 509 (by decide +kernel) rfl
theorem tw_510 : Cond.methodLink R_S 153 y_S_itemsComeUp ∈ TB := inTB 510 (by decide +kernel) rfl
theorem tw_512 : Cond.instanceMethod y_S_itemsComeUp ∈ TB := inTB 512 (by decide +kernel) rfl
set_option maxRecDepth 100000 in
theorem tw_513 : Cond.code y_S_itemsComeUp prog_5_method_18_code 5 (some .boolean) ∈ TB := inTB 513 rfl rfl
theorem tw_514 : Cond.methodLink R_S 233 y_E_isItem ∈ TB := inTB 514 (by decide +kernel) rfl
theorem tw_515 : Cond.instanceMethod y_E_isItem ∈ TB := inTB 515 (by decide +kernel) rfl
theorem tw_516 : Cond.selects R_E y_E_isItem y_E_isItem ∈ TB := inTB 516 (by decide +kernel) rfl
set_option maxRecDepth 100000 in
theorem tw_517 : Cond.code y_E_isItem prog_3_method_13_code 1 (some .boolean) ∈ TB := inTB 517 rfl rfl
theorem tw_518 : Cond.methodLink R_S 236 y_S_isKnown ∈ TB := inTB 518 (by decide +kernel) rfl
theorem tw_520 : Cond.instanceMethod y_S_isKnown ∈ TB := inTB 520 (by decide +kernel) rfl
set_option maxRecDepth 100000 in
theorem tw_521 : Cond.code y_S_isKnown prog_5_method_12_code 2 (some .boolean) ∈ TB := inTB 521 rfl rfl
theorem tw_522 : Cond.methodLink R_S 57 y_S_lateFault ∈ TB := inTB 522 (by decide +kernel) rfl
theorem tw_524 : Cond.instanceMethod y_S_lateFault ∈ TB := inTB 524 (by decide +kernel) rfl
set_option maxRecDepth 100000 in
theorem tw_525 : Cond.code y_S_lateFault prog_5_method_19_code 1 (some .int) ∈ TB := inTB 525 rfl rfl
theorem tw_526 : Cond.methodLink R_S 239 y_S_linksStand ∈ TB := inTB 526 (by decide +kernel) rfl
theorem tw_528 : Cond.instanceMethod y_S_linksStand ∈ TB := inTB 528 (by decide +kernel) rfl
set_option maxRecDepth 100000 in
theorem tw_529 : Cond.code y_S_linksStand prog_5_method_20_code 3 (some .boolean) ∈ TB := inTB 529 rfl rfl
theorem tw_530 : Cond.methodLink R_S 242 y_S_inodesStand ∈ TB := inTB 530 (by decide +kernel) rfl
theorem tw_532 : Cond.instanceMethod y_S_inodesStand ∈ TB := inTB 532 (by decide +kernel) rfl
set_option maxRecDepth 100000 in
theorem tw_533 : Cond.code y_S_inodesStand prog_5_method_21_code 3 (some .boolean) ∈ TB := inTB 533 rfl rfl
theorem tw_534 : Cond.methodLink R_S 248 y_S_isBlank ∈ TB := inTB 534 (by decide +kernel) rfl
theorem tw_536 : Cond.instanceMethod y_S_isBlank ∈ TB := inTB 536 (by decide +kernel) rfl
set_option maxRecDepth 100000 in
theorem tw_537 : Cond.code y_S_isBlank prog_5_method_22_code 5 (some .boolean) ∈ TB := inTB 537 rfl rfl
theorem tw_538 : Cond.methodLink R_S 245 y_S_mapsStand ∈ TB := inTB 538 (by decide +kernel) rfl
theorem tw_540 : Cond.instanceMethod y_S_mapsStand ∈ TB := inTB 540 (by decide +kernel) rfl
set_option maxRecDepth 100000 in
theorem tw_541 : Cond.code y_S_mapsStand prog_5_method_23_code 6 (some .boolean) ∈ TB := inTB 541 rfl rfl
theorem tw_542 : Cond.methodLink R_S 251 y_S_blockMapStands ∈ TB := inTB 542 (by decide +kernel) rfl
theorem tw_544 : Cond.instanceMethod y_S_blockMapStands ∈ TB := inTB 544 (by decide +kernel) rfl
set_option maxRecDepth 100000 in
theorem tw_545 : Cond.code y_S_blockMapStands prog_5_method_25_code 4 (some .boolean) ∈ TB := inTB 545 rfl rfl
theorem tw_546 : Cond.methodLink R_S 270 y_L_blockMap ∈ TB := inTB 546 (by decide +kernel) rfl
theorem tw_547 : Cond.instanceMethod y_L_blockMap ∈ TB := inTB 547 (by decide +kernel) rfl
theorem tw_548 : Cond.selects R_L y_L_blockMap y_L_blockMap ∈ TB := inTB 548 (by decide +kernel) rfl
set_option maxRecDepth 100000 in
theorem tw_549 : Cond.code y_L_blockMap prog_4_method_11_code 2 (some .long) ∈ TB := inTB 549 rfl rfl
theorem tw_550 : Cond.methodLink R_S 273 y_D_bit ∈ TB := inTB 550 (by decide +kernel) rfl
theorem tw_551 : Cond.instanceMethod y_D_bit ∈ TB := inTB 551 (by decide +kernel) rfl
theorem tw_552 : Cond.selects R_D y_D_bit y_D_bit ∈ TB := inTB 552 (by decide +kernel) rfl
set_option maxRecDepth 100000 in
theorem tw_553 : Cond.code y_D_bit prog_2_method_8_code 4 (some .boolean) ∈ TB := inTB 553 rfl rfl
theorem tw_554 : Cond.methodLink R_S 276 y_S_isTaken ∈ TB := inTB 554 (by decide +kernel) rfl
theorem tw_556 : Cond.instanceMethod y_S_isTaken ∈ TB := inTB 556 (by decide +kernel) rfl
set_option maxRecDepth 100000 in
theorem tw_557 : Cond.code y_S_isTaken prog_5_method_24_code 2 (some .boolean) ∈ TB := inTB 557 rfl rfl
theorem tw_558 : Cond.methodLink R_S 257 y_D_onesFrom ∈ TB := inTB 558 (by decide +kernel) rfl
theorem tw_559 : Cond.instanceMethod y_D_onesFrom ∈ TB := inTB 559 (by decide +kernel) rfl
theorem tw_560 : Cond.selects R_D y_D_onesFrom y_D_onesFrom ∈ TB := inTB 560 (by decide +kernel) rfl
set_option maxRecDepth 100000 in
theorem tw_561 : Cond.code y_D_onesFrom prog_2_method_9_code 5 (some .boolean) ∈ TB := inTB 561 rfl rfl
theorem tw_562 : Cond.methodLink R_S 254 y_L_inodeMap ∈ TB := inTB 562 (by decide +kernel) rfl
theorem tw_563 : Cond.instanceMethod y_L_inodeMap ∈ TB := inTB 563 (by decide +kernel) rfl
theorem tw_564 : Cond.selects R_L y_L_inodeMap y_L_inodeMap ∈ TB := inTB 564 (by decide +kernel) rfl
set_option maxRecDepth 100000 in
theorem tw_565 : Cond.code y_L_inodeMap prog_4_method_12_code 2 (some .long) ∈ TB := inTB 565 rfl rfl
theorem tw_566 : Cond.methodLink R_L 70 y_L_blockMap ∈ TB := inTB 566 (by decide +kernel) rfl
theorem tw_567 : Cond.methodLink R_S 261 y_S_freeBlocks ∈ TB := inTB 567 (by decide +kernel) rfl
theorem tw_569 : Cond.instanceMethod y_S_freeBlocks ∈ TB := inTB 569 (by decide +kernel) rfl
set_option maxRecDepth 100000 in
theorem tw_570 : Cond.code y_S_freeBlocks prog_5_method_26_code 5 (some .int) ∈ TB := inTB 570 rfl rfl
theorem tw_571 : Cond.methodLink R_S 264 y_S_freeInodes ∈ TB := inTB 571 (by decide +kernel) rfl
theorem tw_573 : Cond.instanceMethod y_S_freeInodes ∈ TB := inTB 573 (by decide +kernel) rfl
set_option maxRecDepth 100000 in
theorem tw_574 : Cond.code y_S_freeInodes prog_5_method_27_code 4 (some .int) ∈ TB := inTB 574 rfl rfl
theorem tw_575 : Cond.methodLink R_S 267 y_S_directories ∈ TB := inTB 575 (by decide +kernel) rfl
theorem tw_577 : Cond.instanceMethod y_S_directories ∈ TB := inTB 577 (by decide +kernel) rfl
set_option maxRecDepth 100000 in
theorem tw_578 : Cond.code y_S_directories prog_5_method_28_code 4 (some .int) ∈ TB := inTB 578 rfl rfl
theorem tw_579 : Cond.methodLink R_S 279 y_L_groupOf ∈ TB := inTB 579 (by decide +kernel) rfl
theorem tw_591 : Cond.classLink R_V 75 "java/lang/IllegalStateException" ∈ TB := inTB 591 (by decide +kernel) rfl
theorem tw_659 : Cond.methodLink R_V 82 y_V_countItems ∈ TB := inTB 659 (by decide +kernel) rfl
theorem tw_661 : Cond.instanceMethod y_V_countItems ∈ TB := inTB 661 (by decide +kernel) rfl
set_option maxRecDepth 100000 in
theorem tw_662 : Cond.code y_V_countItems prog_1_method_14_code 3 (some .int) ∈ TB := inTB 662 rfl rfl
theorem tw_663 : Cond.methodLink R_V 130 y_E_start ∈ TB := inTB 663 (by decide +kernel) rfl
theorem tw_664 : Cond.constant R_V 139 (43691 : Int32) ∈ TB := inTB 664 (by decide +kernel) rfl
theorem tw_665 : Cond.methodLink R_V 140 y_E_isOn ∈ TB := inTB 665 (by decide +kernel) rfl
theorem tw_666 : Cond.methodLink R_V 144 y_E_isItem ∈ TB := inTB 666 (by decide +kernel) rfl
theorem tw_667 : Cond.methodLink R_V 133 y_E_advance ∈ TB := inTB 667 (by decide +kernel) rfl
theorem tw_676 : Cond.methodLink R_V 85 y_V_seekItem ∈ TB := inTB 676 (by decide +kernel) rfl
theorem tw_678 : Cond.instanceMethod y_V_seekItem ∈ TB := inTB 678 (by decide +kernel) rfl
set_option maxRecDepth 100000 in
theorem tw_679 : Cond.code y_V_seekItem prog_1_method_15_code 4 none ∈ TB := inTB 679 rfl rfl
theorem tw_680 : Cond.classLink R_V 88 "java/lang/IndexOutOfBoundsException" ∈ TB := inTB 680 (by decide +kernel) rfl
theorem tw_697 : Cond.methodLink R_V 93 y_E_nameLength ∈ TB := inTB 697 (by decide +kernel) rfl
theorem tw_698 : Cond.methodLink R_V 96 y_E_nameByte ∈ TB := inTB 698 (by decide +kernel) rfl
theorem tw_699 : Cond.instanceMethod y_E_nameByte ∈ TB := inTB 699 (by decide +kernel) rfl
theorem tw_700 : Cond.selects R_E y_E_nameByte y_E_nameByte ∈ TB := inTB 700 (by decide +kernel) rfl
set_option maxRecDepth 100000 in
theorem tw_701 : Cond.code y_E_nameByte prog_3_method_11_code 2 (some .int) ∈ TB := inTB 701 rfl rfl
theorem tw_710 : Cond.methodLink R_V 100 y_E_inode ∈ TB := inTB 710 (by decide +kernel) rfl
theorem tw_711 : Cond.methodLink R_V 103 y_L_typeOf ∈ TB := inTB 711 (by decide +kernel) rfl
theorem tw_712 : Cond.methodLink R_V 106 y_L_sizeOf ∈ TB := inTB 712 (by decide +kernel) rfl
theorem tw_713 : Cond.methodLink R_V 110 y_L_field ∈ TB := inTB 713 (by decide +kernel) rfl
theorem tw_714 : Cond.methodLink R_V 114 y_V_lastBlock ∈ TB := inTB 714 (by decide +kernel) rfl
theorem tw_716 : Cond.instanceMethod y_V_lastBlock ∈ TB := inTB 716 (by decide +kernel) rfl
set_option maxRecDepth 100000 in
theorem tw_717 : Cond.code y_V_lastBlock prog_1_method_16_code 3 (some .long) ∈ TB := inTB 717 rfl rfl
theorem tw_718 : Cond.methodLink R_V 149 y_L_blocksFor ∈ TB := inTB 718 (by decide +kernel) rfl
theorem tw_719 : Cond.methodLink R_V 124 y_L_blockOf ∈ TB := inTB 719 (by decide +kernel) rfl
theorem tw_720 : Cond.classLink R_V 117 "java/lang/IllegalArgumentException" ∈ TB := inTB 720 (by decide +kernel) rfl
theorem tw_743 : Cond.constantLong R_V 122 (1024 : Int64) ∈ TB := inTB 743 (by decide +kernel) rfl
end
section
theorem d_D_holds_0 : decode b_D_holds 0 = .ok (.iload_n 3, 1) := by decide +kernel
theorem d_D_holds_1 : decode b_D_holds 1 = .ok (.ifCond .eq 25, 3) := by decide +kernel
theorem d_D_holds_4 : decode b_D_holds 4 = .ok (.iload_n 3, 1) := by decide +kernel
theorem d_D_holds_5 : decode b_D_holds 5 = .ok (.ifCond .le 25, 3) := by decide +kernel
theorem d_D_holds_8 : decode b_D_holds 8 = .ok (.lload_n 1, 1) := by decide +kernel
theorem d_D_holds_9 : decode b_D_holds 9 = .ok (.lconst 0, 1) := by decide +kernel
theorem d_D_holds_10 : decode b_D_holds 10 = .ok (.lcmp, 1) := by decide +kernel
theorem d_D_holds_11 : decode b_D_holds 11 = .ok (.ifCond .lt 19, 3) := by decide +kernel
theorem d_D_holds_14 : decode b_D_holds 14 = .ok (.lload_n 1, 1) := by decide +kernel
theorem d_D_holds_15 : decode b_D_holds 15 = .ok (.aload_n 0, 1) := by decide +kernel
theorem d_D_holds_16 : decode b_D_holds 16 = .ok (.getfield 24, 3) := by decide +kernel
theorem d_D_holds_19 : decode b_D_holds 19 = .ok (.iload_n 3, 1) := by decide +kernel
theorem d_D_holds_20 : decode b_D_holds 20 = .ok (.isub, 1) := by decide +kernel
theorem d_D_holds_21 : decode b_D_holds 21 = .ok (.i2l, 1) := by decide +kernel
theorem d_D_holds_22 : decode b_D_holds 22 = .ok (.lcmp, 1) := by decide +kernel
theorem d_D_holds_23 : decode b_D_holds 23 = .ok (.ifCond .gt 7, 3) := by decide +kernel
theorem d_D_holds_26 : decode b_D_holds 26 = .ok (.iconst 1, 1) := by decide +kernel
theorem d_D_holds_27 : decode b_D_holds 27 = .ok (.goto 4, 3) := by decide +kernel
theorem d_D_holds_30 : decode b_D_holds 30 = .ok (.iconst 0, 1) := by decide +kernel
theorem d_D_holds_31 : decode b_D_holds 31 = .ok (.ireturn, 1) := by decide +kernel
theorem d_D_set_0 : decode b_D_set 0 = .ok (.iload_n 3, 1) := by decide +kernel
theorem d_D_set_1 : decode b_D_set 1 = .ok (.iconst 1, 1) := by decide +kernel
theorem d_D_set_2 : decode b_D_set 2 = .ok (.if_icmp .lt 27, 3) := by decide +kernel
theorem d_D_set_5 : decode b_D_set 5 = .ok (.iload_n 3, 1) := by decide +kernel
theorem d_D_set_6 : decode b_D_set 6 = .ok (.bipush 8, 2) := by decide +kernel
theorem d_D_set_8 : decode b_D_set 8 = .ok (.if_icmp .gt 21, 3) := by decide +kernel
theorem d_D_set_11 : decode b_D_set 11 = .ok (.lload_n 1, 1) := by decide +kernel
theorem d_D_set_12 : decode b_D_set 12 = .ok (.lconst 0, 1) := by decide +kernel
theorem d_D_set_13 : decode b_D_set 13 = .ok (.lcmp, 1) := by decide +kernel
theorem d_D_set_14 : decode b_D_set 14 = .ok (.ifCond .lt 15, 3) := by decide +kernel
theorem d_D_set_17 : decode b_D_set 17 = .ok (.lload_n 1, 1) := by decide +kernel
theorem d_D_set_18 : decode b_D_set 18 = .ok (.aload_n 0, 1) := by decide +kernel
theorem d_D_set_19 : decode b_D_set 19 = .ok (.getfield 24, 3) := by decide +kernel
theorem d_D_set_22 : decode b_D_set 22 = .ok (.iload_n 3, 1) := by decide +kernel
theorem d_D_set_23 : decode b_D_set 23 = .ok (.isub, 1) := by decide +kernel
theorem d_D_set_24 : decode b_D_set 24 = .ok (.i2l, 1) := by decide +kernel
theorem d_D_set_25 : decode b_D_set 25 = .ok (.lcmp, 1) := by decide +kernel
theorem d_D_set_26 : decode b_D_set 26 = .ok (.ifCond .le 4, 3) := by decide +kernel
theorem d_D_set_29 : decode b_D_set 29 = .ok (.return_, 1) := by decide +kernel
theorem d_D_set_30 : decode b_D_set 30 = .ok (.lload_n 1, 1) := by decide +kernel
theorem d_D_set_31 : decode b_D_set 31 = .ok (.iconst 3, 1) := by decide +kernel
theorem d_D_set_32 : decode b_D_set 32 = .ok (.lshr, 1) := by decide +kernel
theorem d_D_set_33 : decode b_D_set 33 = .ok (.l2i, 1) := by decide +kernel
theorem d_D_set_34 : decode b_D_set 34 = .ok (.istore 6, 2) := by decide +kernel
theorem d_D_set_36 : decode b_D_set 36 = .ok (.lload_n 1, 1) := by decide +kernel
theorem d_D_set_37 : decode b_D_set 37 = .ok (.ldc2_w 31, 3) := by decide +kernel
theorem d_D_set_40 : decode b_D_set 40 = .ok (.land, 1) := by decide +kernel
theorem d_D_set_41 : decode b_D_set 41 = .ok (.l2i, 1) := by decide +kernel
theorem d_D_set_42 : decode b_D_set 42 = .ok (.iconst 3, 1) := by decide +kernel
theorem d_D_set_43 : decode b_D_set 43 = .ok (.ishl, 1) := by decide +kernel
theorem d_D_set_44 : decode b_D_set 44 = .ok (.istore 7, 2) := by decide +kernel
theorem d_D_set_46 : decode b_D_set 46 = .ok (.ldc2_w 33, 3) := by decide +kernel
theorem d_D_set_49 : decode b_D_set 49 = .ok (.bipush 64, 2) := by decide +kernel
theorem d_D_set_51 : decode b_D_set 51 = .ok (.bipush 8, 2) := by decide +kernel
theorem d_D_set_53 : decode b_D_set 53 = .ok (.iload_n 3, 1) := by decide +kernel
theorem d_D_set_54 : decode b_D_set 54 = .ok (.imul, 1) := by decide +kernel
theorem d_D_set_55 : decode b_D_set 55 = .ok (.isub, 1) := by decide +kernel
theorem d_D_set_56 : decode b_D_set 56 = .ok (.lushr, 1) := by decide +kernel
theorem d_D_set_57 : decode b_D_set 57 = .ok (.lstore 8, 2) := by decide +kernel
theorem d_D_set_59 : decode b_D_set 59 = .ok (.lload 4, 2) := by decide +kernel
theorem d_D_set_61 : decode b_D_set 61 = .ok (.lload 8, 2) := by decide +kernel
theorem d_D_set_63 : decode b_D_set 63 = .ok (.land, 1) := by decide +kernel
theorem d_D_set_64 : decode b_D_set 64 = .ok (.lstore 10, 2) := by decide +kernel
theorem d_D_set_66 : decode b_D_set 66 = .ok (.aload_n 0, 1) := by decide +kernel
theorem d_D_set_67 : decode b_D_set 67 = .ok (.getfield 27, 3) := by decide +kernel
theorem d_D_set_70 : decode b_D_set 70 = .ok (.iload 6, 2) := by decide +kernel
theorem d_D_set_72 : decode b_D_set 72 = .ok (.aload_n 0, 1) := by decide +kernel
theorem d_D_set_73 : decode b_D_set 73 = .ok (.getfield 27, 3) := by decide +kernel
theorem d_D_set_76 : decode b_D_set 76 = .ok (.iload 6, 2) := by decide +kernel
theorem d_D_set_78 : decode b_D_set 78 = .ok (.laload, 1) := by decide +kernel
theorem d_D_set_79 : decode b_D_set 79 = .ok (.lload 8, 2) := by decide +kernel
theorem d_D_set_81 : decode b_D_set 81 = .ok (.iload 7, 2) := by decide +kernel
theorem d_D_set_83 : decode b_D_set 83 = .ok (.lshl, 1) := by decide +kernel
theorem d_D_set_84 : decode b_D_set 84 = .ok (.ldc2_w 33, 3) := by decide +kernel
theorem d_D_set_87 : decode b_D_set 87 = .ok (.lxor, 1) := by decide +kernel
theorem d_D_set_88 : decode b_D_set 88 = .ok (.land, 1) := by decide +kernel
theorem d_D_set_89 : decode b_D_set 89 = .ok (.lload 10, 2) := by decide +kernel
theorem d_D_set_91 : decode b_D_set 91 = .ok (.iload 7, 2) := by decide +kernel
theorem d_D_set_93 : decode b_D_set 93 = .ok (.lshl, 1) := by decide +kernel
theorem d_D_set_94 : decode b_D_set 94 = .ok (.lor, 1) := by decide +kernel
theorem d_D_set_95 : decode b_D_set 95 = .ok (.lastore, 1) := by decide +kernel
theorem d_D_set_96 : decode b_D_set 96 = .ok (.iload 7, 2) := by decide +kernel
theorem d_D_set_98 : decode b_D_set 98 = .ok (.bipush 8, 2) := by decide +kernel
theorem d_D_set_100 : decode b_D_set 100 = .ok (.iload_n 3, 1) := by decide +kernel
theorem d_D_set_101 : decode b_D_set 101 = .ok (.imul, 1) := by decide +kernel
theorem d_D_set_102 : decode b_D_set 102 = .ok (.iadd, 1) := by decide +kernel
theorem d_D_set_103 : decode b_D_set 103 = .ok (.bipush 64, 2) := by decide +kernel
theorem d_D_set_105 : decode b_D_set 105 = .ok (.if_icmp .le 43, 3) := by decide +kernel
theorem d_D_set_108 : decode b_D_set 108 = .ok (.aload_n 0, 1) := by decide +kernel
theorem d_D_set_109 : decode b_D_set 109 = .ok (.getfield 27, 3) := by decide +kernel
theorem d_D_set_112 : decode b_D_set 112 = .ok (.iload 6, 2) := by decide +kernel
theorem d_D_set_114 : decode b_D_set 114 = .ok (.iconst 1, 1) := by decide +kernel
theorem d_D_set_115 : decode b_D_set 115 = .ok (.iadd, 1) := by decide +kernel
theorem d_D_set_116 : decode b_D_set 116 = .ok (.aload_n 0, 1) := by decide +kernel
theorem d_D_set_117 : decode b_D_set 117 = .ok (.getfield 27, 3) := by decide +kernel
theorem d_D_set_120 : decode b_D_set 120 = .ok (.iload 6, 2) := by decide +kernel
theorem d_D_set_122 : decode b_D_set 122 = .ok (.iconst 1, 1) := by decide +kernel
theorem d_D_set_123 : decode b_D_set 123 = .ok (.iadd, 1) := by decide +kernel
theorem d_D_set_124 : decode b_D_set 124 = .ok (.laload, 1) := by decide +kernel
theorem d_D_set_125 : decode b_D_set 125 = .ok (.lload 8, 2) := by decide +kernel
theorem d_D_set_127 : decode b_D_set 127 = .ok (.bipush 64, 2) := by decide +kernel
theorem d_D_set_129 : decode b_D_set 129 = .ok (.iload 7, 2) := by decide +kernel
theorem d_D_set_131 : decode b_D_set 131 = .ok (.isub, 1) := by decide +kernel
theorem d_D_set_132 : decode b_D_set 132 = .ok (.lushr, 1) := by decide +kernel
theorem d_D_set_133 : decode b_D_set 133 = .ok (.ldc2_w 33, 3) := by decide +kernel
theorem d_D_set_136 : decode b_D_set 136 = .ok (.lxor, 1) := by decide +kernel
theorem d_D_set_137 : decode b_D_set 137 = .ok (.land, 1) := by decide +kernel
theorem d_D_set_138 : decode b_D_set 138 = .ok (.lload 10, 2) := by decide +kernel
theorem d_D_set_140 : decode b_D_set 140 = .ok (.bipush 64, 2) := by decide +kernel
theorem d_D_set_142 : decode b_D_set 142 = .ok (.iload 7, 2) := by decide +kernel
theorem d_D_set_144 : decode b_D_set 144 = .ok (.isub, 1) := by decide +kernel
theorem d_D_set_145 : decode b_D_set 145 = .ok (.lushr, 1) := by decide +kernel
theorem d_D_set_146 : decode b_D_set 146 = .ok (.lor, 1) := by decide +kernel
theorem d_D_set_147 : decode b_D_set 147 = .ok (.lastore, 1) := by decide +kernel
theorem d_D_set_148 : decode b_D_set 148 = .ok (.return_, 1) := by decide +kernel
theorem d_D_spread_0 : decode b_D_spread 0 = .ok (.iload_n 3, 1) := by decide +kernel
theorem d_D_spread_1 : decode b_D_spread 1 = .ok (.sipush 255, 3) := by decide +kernel
theorem d_D_spread_4 : decode b_D_spread 4 = .ok (.iand, 1) := by decide +kernel
theorem d_D_spread_5 : decode b_D_spread 5 = .ok (.i2l, 1) := by decide +kernel
theorem d_D_spread_6 : decode b_D_spread 6 = .ok (.ldc2_w 35, 3) := by decide +kernel
theorem d_D_spread_9 : decode b_D_spread 9 = .ok (.lmul, 1) := by decide +kernel
theorem d_D_spread_10 : decode b_D_spread 10 = .ok (.lstore 4, 2) := by decide +kernel
theorem d_D_spread_12 : decode b_D_spread 12 = .ok (.iconst 0, 1) := by decide +kernel
theorem d_D_spread_13 : decode b_D_spread 13 = .ok (.istore 6, 2) := by decide +kernel
theorem d_D_spread_15 : decode b_D_spread 15 = .ok (.iload 6, 2) := by decide +kernel
theorem d_D_spread_17 : decode b_D_spread 17 = .ok (.iload_n 2, 1) := by decide +kernel
theorem d_D_spread_18 : decode b_D_spread 18 = .ok (.bipush 8, 2) := by decide +kernel
theorem d_D_spread_20 : decode b_D_spread 20 = .ok (.isub, 1) := by decide +kernel
theorem d_D_spread_21 : decode b_D_spread 21 = .ok (.if_icmp .gt 22, 3) := by decide +kernel
theorem d_D_spread_24 : decode b_D_spread 24 = .ok (.aload_n 0, 1) := by decide +kernel
theorem d_D_spread_25 : decode b_D_spread 25 = .ok (.iload_n 1, 1) := by decide +kernel
theorem d_D_spread_26 : decode b_D_spread 26 = .ok (.iload 6, 2) := by decide +kernel
theorem d_D_spread_28 : decode b_D_spread 28 = .ok (.iadd, 1) := by decide +kernel
theorem d_D_spread_29 : decode b_D_spread 29 = .ok (.i2l, 1) := by decide +kernel
theorem d_D_spread_30 : decode b_D_spread 30 = .ok (.bipush 8, 2) := by decide +kernel
theorem d_D_spread_32 : decode b_D_spread 32 = .ok (.lload 4, 2) := by decide +kernel
theorem d_D_spread_34 : decode b_D_spread 34 = .ok (.invokevirtual 37, 3) := by decide +kernel
theorem d_D_spread_37 : decode b_D_spread 37 = .ok (.iinc 6 8, 3) := by decide +kernel
theorem d_D_spread_40 : decode b_D_spread 40 = .ok (.goto (-25), 3) := by decide +kernel
theorem d_D_spread_43 : decode b_D_spread 43 = .ok (.aload_n 0, 1) := by decide +kernel
theorem d_D_spread_44 : decode b_D_spread 44 = .ok (.iload_n 1, 1) := by decide +kernel
theorem d_D_spread_45 : decode b_D_spread 45 = .ok (.iload 6, 2) := by decide +kernel
theorem d_D_spread_47 : decode b_D_spread 47 = .ok (.iadd, 1) := by decide +kernel
theorem d_D_spread_48 : decode b_D_spread 48 = .ok (.i2l, 1) := by decide +kernel
theorem d_D_spread_49 : decode b_D_spread 49 = .ok (.iload_n 2, 1) := by decide +kernel
theorem d_D_spread_50 : decode b_D_spread 50 = .ok (.iload 6, 2) := by decide +kernel
theorem d_D_spread_52 : decode b_D_spread 52 = .ok (.isub, 1) := by decide +kernel
theorem d_D_spread_53 : decode b_D_spread 53 = .ok (.lload 4, 2) := by decide +kernel
theorem d_D_spread_55 : decode b_D_spread 55 = .ok (.invokevirtual 37, 3) := by decide +kernel
theorem d_D_spread_58 : decode b_D_spread 58 = .ok (.return_, 1) := by decide +kernel
theorem d_D_number_0 : decode b_D_number 0 = .ok (.iload_n 3, 1) := by decide +kernel
theorem d_D_number_1 : decode b_D_number 1 = .ok (.iconst 1, 1) := by decide +kernel
theorem d_D_number_2 : decode b_D_number 2 = .ok (.if_icmp .lt 27, 3) := by decide +kernel
theorem d_D_number_5 : decode b_D_number 5 = .ok (.iload_n 3, 1) := by decide +kernel
theorem d_D_number_6 : decode b_D_number 6 = .ok (.bipush 8, 2) := by decide +kernel
theorem d_D_number_8 : decode b_D_number 8 = .ok (.if_icmp .gt 21, 3) := by decide +kernel
theorem d_D_number_11 : decode b_D_number 11 = .ok (.lload_n 1, 1) := by decide +kernel
theorem d_D_number_12 : decode b_D_number 12 = .ok (.lconst 0, 1) := by decide +kernel
theorem d_D_number_13 : decode b_D_number 13 = .ok (.lcmp, 1) := by decide +kernel
theorem d_D_number_14 : decode b_D_number 14 = .ok (.ifCond .lt 15, 3) := by decide +kernel
theorem d_D_number_17 : decode b_D_number 17 = .ok (.lload_n 1, 1) := by decide +kernel
theorem d_D_number_18 : decode b_D_number 18 = .ok (.aload_n 0, 1) := by decide +kernel
theorem d_D_number_19 : decode b_D_number 19 = .ok (.getfield 24, 3) := by decide +kernel
theorem d_D_number_22 : decode b_D_number 22 = .ok (.iload_n 3, 1) := by decide +kernel
theorem d_D_number_23 : decode b_D_number 23 = .ok (.isub, 1) := by decide +kernel
theorem d_D_number_24 : decode b_D_number 24 = .ok (.i2l, 1) := by decide +kernel
theorem d_D_number_25 : decode b_D_number 25 = .ok (.lcmp, 1) := by decide +kernel
theorem d_D_number_26 : decode b_D_number 26 = .ok (.ifCond .le 5, 3) := by decide +kernel
theorem d_D_number_29 : decode b_D_number 29 = .ok (.lconst 0, 1) := by decide +kernel
theorem d_D_number_30 : decode b_D_number 30 = .ok (.lreturn, 1) := by decide +kernel
theorem d_D_number_31 : decode b_D_number 31 = .ok (.lload_n 1, 1) := by decide +kernel
theorem d_D_number_32 : decode b_D_number 32 = .ok (.iconst 3, 1) := by decide +kernel
theorem d_D_number_33 : decode b_D_number 33 = .ok (.lshr, 1) := by decide +kernel
theorem d_D_number_34 : decode b_D_number 34 = .ok (.l2i, 1) := by decide +kernel
theorem d_D_number_35 : decode b_D_number 35 = .ok (.istore 4, 2) := by decide +kernel
theorem d_D_number_37 : decode b_D_number 37 = .ok (.lload_n 1, 1) := by decide +kernel
theorem d_D_number_38 : decode b_D_number 38 = .ok (.ldc2_w 31, 3) := by decide +kernel
theorem d_D_number_41 : decode b_D_number 41 = .ok (.land, 1) := by decide +kernel
theorem d_D_number_42 : decode b_D_number 42 = .ok (.l2i, 1) := by decide +kernel
theorem d_D_number_43 : decode b_D_number 43 = .ok (.iconst 3, 1) := by decide +kernel
theorem d_D_number_44 : decode b_D_number 44 = .ok (.ishl, 1) := by decide +kernel
theorem d_D_number_45 : decode b_D_number 45 = .ok (.istore 5, 2) := by decide +kernel
theorem d_D_number_47 : decode b_D_number 47 = .ok (.aload_n 0, 1) := by decide +kernel
theorem d_D_number_48 : decode b_D_number 48 = .ok (.getfield 27, 3) := by decide +kernel
theorem d_D_number_51 : decode b_D_number 51 = .ok (.iload 4, 2) := by decide +kernel
theorem d_D_number_53 : decode b_D_number 53 = .ok (.laload, 1) := by decide +kernel
theorem d_D_number_54 : decode b_D_number 54 = .ok (.iload 5, 2) := by decide +kernel
theorem d_D_number_56 : decode b_D_number 56 = .ok (.lushr, 1) := by decide +kernel
theorem d_D_number_57 : decode b_D_number 57 = .ok (.lstore 6, 2) := by decide +kernel
theorem d_D_number_59 : decode b_D_number 59 = .ok (.iload 5, 2) := by decide +kernel
theorem d_D_number_61 : decode b_D_number 61 = .ok (.bipush 8, 2) := by decide +kernel
theorem d_D_number_63 : decode b_D_number 63 = .ok (.iload_n 3, 1) := by decide +kernel
theorem d_D_number_64 : decode b_D_number 64 = .ok (.imul, 1) := by decide +kernel
theorem d_D_number_65 : decode b_D_number 65 = .ok (.iadd, 1) := by decide +kernel
theorem d_D_number_66 : decode b_D_number 66 = .ok (.bipush 64, 2) := by decide +kernel
theorem d_D_number_68 : decode b_D_number 68 = .ok (.if_icmp .le 23, 3) := by decide +kernel
theorem d_D_number_71 : decode b_D_number 71 = .ok (.lload 6, 2) := by decide +kernel
theorem d_D_number_73 : decode b_D_number 73 = .ok (.aload_n 0, 1) := by decide +kernel
theorem d_D_number_74 : decode b_D_number 74 = .ok (.getfield 27, 3) := by decide +kernel
theorem d_D_number_77 : decode b_D_number 77 = .ok (.iload 4, 2) := by decide +kernel
theorem d_D_number_79 : decode b_D_number 79 = .ok (.iconst 1, 1) := by decide +kernel
theorem d_D_number_80 : decode b_D_number 80 = .ok (.iadd, 1) := by decide +kernel
theorem d_D_number_81 : decode b_D_number 81 = .ok (.laload, 1) := by decide +kernel
theorem d_D_number_82 : decode b_D_number 82 = .ok (.bipush 64, 2) := by decide +kernel
theorem d_D_number_84 : decode b_D_number 84 = .ok (.iload 5, 2) := by decide +kernel
theorem d_D_number_86 : decode b_D_number 86 = .ok (.isub, 1) := by decide +kernel
theorem d_D_number_87 : decode b_D_number 87 = .ok (.lshl, 1) := by decide +kernel
theorem d_D_number_88 : decode b_D_number 88 = .ok (.lor, 1) := by decide +kernel
theorem d_D_number_89 : decode b_D_number 89 = .ok (.lstore 6, 2) := by decide +kernel
theorem d_D_number_91 : decode b_D_number 91 = .ok (.lload 6, 2) := by decide +kernel
theorem d_D_number_93 : decode b_D_number 93 = .ok (.ldc2_w 33, 3) := by decide +kernel
theorem d_D_number_96 : decode b_D_number 96 = .ok (.bipush 64, 2) := by decide +kernel
theorem d_D_number_98 : decode b_D_number 98 = .ok (.bipush 8, 2) := by decide +kernel
theorem d_D_number_100 : decode b_D_number 100 = .ok (.iload_n 3, 1) := by decide +kernel
theorem d_D_number_101 : decode b_D_number 101 = .ok (.imul, 1) := by decide +kernel
theorem d_D_number_102 : decode b_D_number 102 = .ok (.isub, 1) := by decide +kernel
theorem d_D_number_103 : decode b_D_number 103 = .ok (.lushr, 1) := by decide +kernel
theorem d_D_number_104 : decode b_D_number 104 = .ok (.land, 1) := by decide +kernel
theorem d_D_number_105 : decode b_D_number 105 = .ok (.lreturn, 1) := by decide +kernel
theorem d_D_move_0 : decode b_D_move 0 = .ok (.iload_n 2, 1) := by decide +kernel
theorem d_D_move_1 : decode b_D_move 1 = .ok (.iload_n 1, 1) := by decide +kernel
theorem d_D_move_2 : decode b_D_move 2 = .ok (.if_icmp .gt 72, 3) := by decide +kernel
theorem d_D_move_5 : decode b_D_move 5 = .ok (.iconst 0, 1) := by decide +kernel
theorem d_D_move_6 : decode b_D_move 6 = .ok (.istore 4, 2) := by decide +kernel
theorem d_D_move_8 : decode b_D_move 8 = .ok (.iload 4, 2) := by decide +kernel
theorem d_D_move_10 : decode b_D_move 10 = .ok (.iload_n 3, 1) := by decide +kernel
theorem d_D_move_11 : decode b_D_move 11 = .ok (.bipush 8, 2) := by decide +kernel
theorem d_D_move_13 : decode b_D_move 13 = .ok (.isub, 1) := by decide +kernel
theorem d_D_move_14 : decode b_D_move 14 = .ok (.if_icmp .gt 31, 3) := by decide +kernel
theorem d_D_move_17 : decode b_D_move 17 = .ok (.aload_n 0, 1) := by decide +kernel
theorem d_D_move_18 : decode b_D_move 18 = .ok (.iload_n 2, 1) := by decide +kernel
theorem d_D_move_19 : decode b_D_move 19 = .ok (.iload 4, 2) := by decide +kernel
theorem d_D_move_21 : decode b_D_move 21 = .ok (.iadd, 1) := by decide +kernel
theorem d_D_move_22 : decode b_D_move 22 = .ok (.i2l, 1) := by decide +kernel
theorem d_D_move_23 : decode b_D_move 23 = .ok (.bipush 8, 2) := by decide +kernel
theorem d_D_move_25 : decode b_D_move 25 = .ok (.aload_n 0, 1) := by decide +kernel
theorem d_D_move_26 : decode b_D_move 26 = .ok (.iload_n 1, 1) := by decide +kernel
theorem d_D_move_27 : decode b_D_move 27 = .ok (.iload 4, 2) := by decide +kernel
theorem d_D_move_29 : decode b_D_move 29 = .ok (.iadd, 1) := by decide +kernel
theorem d_D_move_30 : decode b_D_move 30 = .ok (.i2l, 1) := by decide +kernel
theorem d_D_move_31 : decode b_D_move 31 = .ok (.bipush 8, 2) := by decide +kernel
theorem d_D_move_33 : decode b_D_move 33 = .ok (.invokevirtual 41, 3) := by decide +kernel
theorem d_D_move_36 : decode b_D_move 36 = .ok (.invokevirtual 37, 3) := by decide +kernel
theorem d_D_move_39 : decode b_D_move 39 = .ok (.iinc 4 8, 3) := by decide +kernel
theorem d_D_move_42 : decode b_D_move 42 = .ok (.goto (-34), 3) := by decide +kernel
theorem d_D_move_45 : decode b_D_move 45 = .ok (.aload_n 0, 1) := by decide +kernel
theorem d_D_move_46 : decode b_D_move 46 = .ok (.iload_n 2, 1) := by decide +kernel
theorem d_D_move_47 : decode b_D_move 47 = .ok (.iload 4, 2) := by decide +kernel
theorem d_D_move_49 : decode b_D_move 49 = .ok (.iadd, 1) := by decide +kernel
theorem d_D_move_50 : decode b_D_move 50 = .ok (.i2l, 1) := by decide +kernel
theorem d_D_move_51 : decode b_D_move 51 = .ok (.iload_n 3, 1) := by decide +kernel
theorem d_D_move_52 : decode b_D_move 52 = .ok (.iload 4, 2) := by decide +kernel
theorem d_D_move_54 : decode b_D_move 54 = .ok (.isub, 1) := by decide +kernel
theorem d_D_move_55 : decode b_D_move 55 = .ok (.aload_n 0, 1) := by decide +kernel
theorem d_D_move_56 : decode b_D_move 56 = .ok (.iload_n 1, 1) := by decide +kernel
theorem d_D_move_57 : decode b_D_move 57 = .ok (.iload 4, 2) := by decide +kernel
theorem d_D_move_59 : decode b_D_move 59 = .ok (.iadd, 1) := by decide +kernel
theorem d_D_move_60 : decode b_D_move 60 = .ok (.i2l, 1) := by decide +kernel
theorem d_D_move_61 : decode b_D_move 61 = .ok (.iload_n 3, 1) := by decide +kernel
theorem d_D_move_62 : decode b_D_move 62 = .ok (.iload 4, 2) := by decide +kernel
theorem d_D_move_64 : decode b_D_move 64 = .ok (.isub, 1) := by decide +kernel
theorem d_D_move_65 : decode b_D_move 65 = .ok (.invokevirtual 41, 3) := by decide +kernel
theorem d_D_move_68 : decode b_D_move 68 = .ok (.invokevirtual 37, 3) := by decide +kernel
theorem d_D_move_71 : decode b_D_move 71 = .ok (.goto 63, 3) := by decide +kernel
theorem d_D_move_74 : decode b_D_move 74 = .ok (.iload_n 3, 1) := by decide +kernel
theorem d_D_move_75 : decode b_D_move 75 = .ok (.istore 4, 2) := by decide +kernel
theorem d_D_move_77 : decode b_D_move 77 = .ok (.iload 4, 2) := by decide +kernel
theorem d_D_move_79 : decode b_D_move 79 = .ok (.bipush 8, 2) := by decide +kernel
theorem d_D_move_81 : decode b_D_move 81 = .ok (.if_icmp .lt 37, 3) := by decide +kernel
theorem d_D_move_84 : decode b_D_move 84 = .ok (.aload_n 0, 1) := by decide +kernel
theorem d_D_move_85 : decode b_D_move 85 = .ok (.iload_n 2, 1) := by decide +kernel
theorem d_D_move_86 : decode b_D_move 86 = .ok (.iload 4, 2) := by decide +kernel
theorem d_D_move_88 : decode b_D_move 88 = .ok (.iadd, 1) := by decide +kernel
theorem d_D_move_89 : decode b_D_move 89 = .ok (.bipush 8, 2) := by decide +kernel
theorem d_D_move_91 : decode b_D_move 91 = .ok (.isub, 1) := by decide +kernel
theorem d_D_move_92 : decode b_D_move 92 = .ok (.i2l, 1) := by decide +kernel
theorem d_D_move_93 : decode b_D_move 93 = .ok (.bipush 8, 2) := by decide +kernel
theorem d_D_move_95 : decode b_D_move 95 = .ok (.aload_n 0, 1) := by decide +kernel
theorem d_D_move_96 : decode b_D_move 96 = .ok (.iload_n 1, 1) := by decide +kernel
theorem d_D_move_97 : decode b_D_move 97 = .ok (.iload 4, 2) := by decide +kernel
theorem d_D_move_99 : decode b_D_move 99 = .ok (.iadd, 1) := by decide +kernel
theorem d_D_move_100 : decode b_D_move 100 = .ok (.bipush 8, 2) := by decide +kernel
theorem d_D_move_102 : decode b_D_move 102 = .ok (.isub, 1) := by decide +kernel
theorem d_D_move_103 : decode b_D_move 103 = .ok (.i2l, 1) := by decide +kernel
theorem d_D_move_104 : decode b_D_move 104 = .ok (.bipush 8, 2) := by decide +kernel
theorem d_D_move_106 : decode b_D_move 106 = .ok (.invokevirtual 41, 3) := by decide +kernel
theorem d_D_move_109 : decode b_D_move 109 = .ok (.invokevirtual 37, 3) := by decide +kernel
theorem d_D_move_112 : decode b_D_move 112 = .ok (.iinc 4 (-8), 3) := by decide +kernel
theorem d_D_move_115 : decode b_D_move 115 = .ok (.goto (-38), 3) := by decide +kernel
theorem d_D_move_118 : decode b_D_move 118 = .ok (.aload_n 0, 1) := by decide +kernel
theorem d_D_move_119 : decode b_D_move 119 = .ok (.iload_n 2, 1) := by decide +kernel
theorem d_D_move_120 : decode b_D_move 120 = .ok (.i2l, 1) := by decide +kernel
theorem d_D_move_121 : decode b_D_move 121 = .ok (.iload 4, 2) := by decide +kernel
theorem d_D_move_123 : decode b_D_move 123 = .ok (.aload_n 0, 1) := by decide +kernel
theorem d_D_move_124 : decode b_D_move 124 = .ok (.iload_n 1, 1) := by decide +kernel
theorem d_D_move_125 : decode b_D_move 125 = .ok (.i2l, 1) := by decide +kernel
theorem d_D_move_126 : decode b_D_move 126 = .ok (.iload 4, 2) := by decide +kernel
theorem d_D_move_128 : decode b_D_move 128 = .ok (.invokevirtual 41, 3) := by decide +kernel
theorem d_D_move_131 : decode b_D_move 131 = .ok (.invokevirtual 37, 3) := by decide +kernel
theorem d_D_move_134 : decode b_D_move 134 = .ok (.return_, 1) := by decide +kernel
theorem d_D_blocks_0 : decode b_D_blocks 0 = .ok (.aload_n 0, 1) := by decide +kernel
theorem d_D_blocks_1 : decode b_D_blocks 1 = .ok (.getfield 18, 3) := by decide +kernel
theorem d_D_blocks_4 : decode b_D_blocks 4 = .ok (.ireturn, 1) := by decide +kernel
theorem d_D_bit_0 : decode b_D_bit 0 = .ok (.aload_n 0, 1) := by decide +kernel
theorem d_D_bit_1 : decode b_D_bit 1 = .ok (.lload_n 1, 1) := by decide +kernel
theorem d_D_bit_2 : decode b_D_bit 2 = .ok (.iload_n 3, 1) := by decide +kernel
theorem d_D_bit_3 : decode b_D_bit 3 = .ok (.bipush 8, 2) := by decide +kernel
theorem d_D_bit_5 : decode b_D_bit 5 = .ok (.idiv, 1) := by decide +kernel
theorem d_D_bit_6 : decode b_D_bit 6 = .ok (.i2l, 1) := by decide +kernel
theorem d_D_bit_7 : decode b_D_bit 7 = .ok (.ladd, 1) := by decide +kernel
theorem d_D_bit_8 : decode b_D_bit 8 = .ok (.iconst 1, 1) := by decide +kernel
theorem d_D_bit_9 : decode b_D_bit 9 = .ok (.invokevirtual 41, 3) := by decide +kernel
theorem d_D_bit_12 : decode b_D_bit 12 = .ok (.iload_n 3, 1) := by decide +kernel
theorem d_D_bit_13 : decode b_D_bit 13 = .ok (.bipush 8, 2) := by decide +kernel
theorem d_D_bit_15 : decode b_D_bit 15 = .ok (.irem, 1) := by decide +kernel
theorem d_D_bit_16 : decode b_D_bit 16 = .ok (.lshr, 1) := by decide +kernel
theorem d_D_bit_17 : decode b_D_bit 17 = .ok (.lconst 1, 1) := by decide +kernel
theorem d_D_bit_18 : decode b_D_bit 18 = .ok (.land, 1) := by decide +kernel
theorem d_D_bit_19 : decode b_D_bit 19 = .ok (.lconst 0, 1) := by decide +kernel
theorem d_D_bit_20 : decode b_D_bit 20 = .ok (.lcmp, 1) := by decide +kernel
theorem d_D_bit_21 : decode b_D_bit 21 = .ok (.ifCond .eq 7, 3) := by decide +kernel
theorem d_D_bit_24 : decode b_D_bit 24 = .ok (.iconst 1, 1) := by decide +kernel
theorem d_D_bit_25 : decode b_D_bit 25 = .ok (.goto 4, 3) := by decide +kernel
theorem d_D_bit_28 : decode b_D_bit 28 = .ok (.iconst 0, 1) := by decide +kernel
theorem d_D_bit_29 : decode b_D_bit 29 = .ok (.ireturn, 1) := by decide +kernel
theorem d_D_onesFrom_0 : decode b_D_onesFrom 0 = .ok (.iload_n 3, 1) := by decide +kernel
theorem d_D_onesFrom_1 : decode b_D_onesFrom 1 = .ok (.istore 4, 2) := by decide +kernel
theorem d_D_onesFrom_3 : decode b_D_onesFrom 3 = .ok (.iload 4, 2) := by decide +kernel
theorem d_D_onesFrom_5 : decode b_D_onesFrom 5 = .ok (.sipush 8192, 3) := by decide +kernel
theorem d_D_onesFrom_8 : decode b_D_onesFrom 8 = .ok (.if_icmp .ge 45, 3) := by decide +kernel
theorem d_D_onesFrom_11 : decode b_D_onesFrom 11 = .ok (.iload 4, 2) := by decide +kernel
theorem d_D_onesFrom_13 : decode b_D_onesFrom 13 = .ok (.bipush 64, 2) := by decide +kernel
theorem d_D_onesFrom_15 : decode b_D_onesFrom 15 = .ok (.irem, 1) := by decide +kernel
theorem d_D_onesFrom_16 : decode b_D_onesFrom 16 = .ok (.ifCond .eq 37, 3) := by decide +kernel
theorem d_D_onesFrom_19 : decode b_D_onesFrom 19 = .ok (.aload_n 0, 1) := by decide +kernel
theorem d_D_onesFrom_20 : decode b_D_onesFrom 20 = .ok (.lload_n 1, 1) := by decide +kernel
theorem d_D_onesFrom_21 : decode b_D_onesFrom 21 = .ok (.iload 4, 2) := by decide +kernel
theorem d_D_onesFrom_23 : decode b_D_onesFrom 23 = .ok (.bipush 8, 2) := by decide +kernel
theorem d_D_onesFrom_25 : decode b_D_onesFrom 25 = .ok (.idiv, 1) := by decide +kernel
theorem d_D_onesFrom_26 : decode b_D_onesFrom 26 = .ok (.i2l, 1) := by decide +kernel
theorem d_D_onesFrom_27 : decode b_D_onesFrom 27 = .ok (.ladd, 1) := by decide +kernel
theorem d_D_onesFrom_28 : decode b_D_onesFrom 28 = .ok (.iconst 1, 1) := by decide +kernel
theorem d_D_onesFrom_29 : decode b_D_onesFrom 29 = .ok (.invokevirtual 41, 3) := by decide +kernel
theorem d_D_onesFrom_32 : decode b_D_onesFrom 32 = .ok (.iload 4, 2) := by decide +kernel
theorem d_D_onesFrom_34 : decode b_D_onesFrom 34 = .ok (.bipush 8, 2) := by decide +kernel
theorem d_D_onesFrom_36 : decode b_D_onesFrom 36 = .ok (.irem, 1) := by decide +kernel
theorem d_D_onesFrom_37 : decode b_D_onesFrom 37 = .ok (.lshr, 1) := by decide +kernel
theorem d_D_onesFrom_38 : decode b_D_onesFrom 38 = .ok (.lconst 1, 1) := by decide +kernel
theorem d_D_onesFrom_39 : decode b_D_onesFrom 39 = .ok (.land, 1) := by decide +kernel
theorem d_D_onesFrom_40 : decode b_D_onesFrom 40 = .ok (.lconst 0, 1) := by decide +kernel
theorem d_D_onesFrom_41 : decode b_D_onesFrom 41 = .ok (.lcmp, 1) := by decide +kernel
theorem d_D_onesFrom_42 : decode b_D_onesFrom 42 = .ok (.ifCond .ne 5, 3) := by decide +kernel
theorem d_D_onesFrom_45 : decode b_D_onesFrom 45 = .ok (.iconst 0, 1) := by decide +kernel
theorem d_D_onesFrom_46 : decode b_D_onesFrom 46 = .ok (.ireturn, 1) := by decide +kernel
theorem d_D_onesFrom_47 : decode b_D_onesFrom 47 = .ok (.iinc 4 1, 3) := by decide +kernel
theorem d_D_onesFrom_50 : decode b_D_onesFrom 50 = .ok (.goto (-47), 3) := by decide +kernel
theorem d_D_onesFrom_53 : decode b_D_onesFrom 53 = .ok (.iload 4, 2) := by decide +kernel
theorem d_D_onesFrom_55 : decode b_D_onesFrom 55 = .ok (.sipush 8192, 3) := by decide +kernel
theorem d_D_onesFrom_58 : decode b_D_onesFrom 58 = .ok (.if_icmp .ge 32, 3) := by decide +kernel
theorem d_D_onesFrom_61 : decode b_D_onesFrom 61 = .ok (.aload_n 0, 1) := by decide +kernel
theorem d_D_onesFrom_62 : decode b_D_onesFrom 62 = .ok (.lload_n 1, 1) := by decide +kernel
theorem d_D_onesFrom_63 : decode b_D_onesFrom 63 = .ok (.iload 4, 2) := by decide +kernel
theorem d_D_onesFrom_65 : decode b_D_onesFrom 65 = .ok (.bipush 8, 2) := by decide +kernel
theorem d_D_onesFrom_67 : decode b_D_onesFrom 67 = .ok (.idiv, 1) := by decide +kernel
theorem d_D_onesFrom_68 : decode b_D_onesFrom 68 = .ok (.i2l, 1) := by decide +kernel
theorem d_D_onesFrom_69 : decode b_D_onesFrom 69 = .ok (.ladd, 1) := by decide +kernel
theorem d_D_onesFrom_70 : decode b_D_onesFrom 70 = .ok (.bipush 8, 2) := by decide +kernel
theorem d_D_onesFrom_72 : decode b_D_onesFrom 72 = .ok (.invokevirtual 41, 3) := by decide +kernel
theorem d_D_onesFrom_75 : decode b_D_onesFrom 75 = .ok (.ldc2_w 33, 3) := by decide +kernel
theorem d_D_onesFrom_78 : decode b_D_onesFrom 78 = .ok (.lcmp, 1) := by decide +kernel
theorem d_D_onesFrom_79 : decode b_D_onesFrom 79 = .ok (.ifCond .eq 5, 3) := by decide +kernel
theorem d_D_onesFrom_82 : decode b_D_onesFrom 82 = .ok (.iconst 0, 1) := by decide +kernel
theorem d_D_onesFrom_83 : decode b_D_onesFrom 83 = .ok (.ireturn, 1) := by decide +kernel
theorem d_D_onesFrom_84 : decode b_D_onesFrom 84 = .ok (.iinc 4 64, 3) := by decide +kernel
theorem d_D_onesFrom_87 : decode b_D_onesFrom 87 = .ok (.goto (-34), 3) := by decide +kernel
theorem d_D_onesFrom_90 : decode b_D_onesFrom 90 = .ok (.iconst 1, 1) := by decide +kernel
theorem d_D_onesFrom_91 : decode b_D_onesFrom 91 = .ok (.ireturn, 1) := by decide +kernel
end
section
def f_D_holds (NW : Nat) (sz : Int32) (a1 : Int64) (a3 : Int32) : Option (Int32) := (if a3 = 0 then some ((1 : Int32)) else (if a3 ≤ 0 then some ((0 : Int32)) else (if a1 < ((0 : Int64)) then some ((0 : Int32)) else (if (Int32.toInt64 (sz - a3)) < a1 then some ((0 : Int32)) else some ((1 : Int32))))))
def f_D_set (NW : Nat) (sz : Int32) (wd : Nat → Int64) (a1 : Int64) (a3 : Int32) (a4 : Int64) : Option ((Nat → Int64)) := (if a3 < ((1 : Int32)) then some (wd) else (if ((8 : Int32)) < a3 then some (wd) else (if a1 < ((0 : Int64)) then some (wd) else (if a1 ≤ (Int32.toInt64 (sz - a3)) then lt1 (Int64.toInt32 (a1 >>> ((Int32.toInt64 ((3 : Int32))) &&& 63))) (fun (v6_5 : Int32) => lt1 ((Int64.toInt32 (a1 &&& ((7 : Int64)))) <<< (((3 : Int32)) &&& 31)) (fun (v7_6 : Int32) => lt1 (UInt64.toInt64 ((Int64.toUInt64 ((-1 : Int64))) >>> ((Int64.toUInt64 (Int32.toInt64 (((64 : Int32)) - (((8 : Int32)) * a3)))) &&& Int64.toUInt64 63))) (fun (v8_7 : Int64) => lt1 (a4 &&& v8_7) (fun (v10_8 : Int64) => if oob v6_5 NW then none else if oob v6_5 NW then none else lt1 (vp_updL wd (Int32.toNatClampNeg v6_5) (((wd (Int32.toNatClampNeg v6_5)) &&& ((v8_7 <<< ((Int32.toInt64 v7_6) &&& 63)) ^^^ ((-1 : Int64)))) ||| (v10_8 <<< ((Int32.toInt64 v7_6) &&& 63)))) (fun (wd_11 : Nat → Int64) => (if (v7_6 + (((8 : Int32)) * a3)) ≤ ((64 : Int32)) then some (wd_11) else if oob (v6_5 + ((1 : Int32))) NW then none else if oob (v6_5 + ((1 : Int32))) NW then none else lt1 (vp_updL wd_11 (Int32.toNatClampNeg (v6_5 + ((1 : Int32)))) (((wd_11 (Int32.toNatClampNeg (v6_5 + ((1 : Int32))))) &&& ((UInt64.toInt64 ((Int64.toUInt64 v8_7) >>> ((Int64.toUInt64 (Int32.toInt64 (((64 : Int32)) - v7_6))) &&& Int64.toUInt64 63))) ^^^ ((-1 : Int64)))) ||| (UInt64.toInt64 ((Int64.toUInt64 v10_8) >>> ((Int64.toUInt64 (Int32.toInt64 (((64 : Int32)) - v7_6))) &&& Int64.toUInt64 63))))) (fun (wd_15 : Nat → Int64) => some (wd_15)))))))) else some (wd)))))
def f_D_spread_15 (N : Nat) (NW : Nat) (sz : Int32) : Nat → (Nat → Int64) → Int32 → Int32 → Int64 → Int32 → Option ((Nat → Int64))
  | 0, _, _, _, _, _ => none
  | k+1, wd, x1, x2, x4, x6 => (if (x2 - ((8 : Int32))) < x6 then bd1 (f_D_set NW sz wd (Int32.toInt64 (x1 + x6)) (x2 - x6) x4) (fun (wd_2 : Nat → Int64) => some (wd_2)) else bd1 (f_D_set NW sz wd (Int32.toInt64 (x1 + x6)) ((8 : Int32)) x4) (fun (wd_4 : Nat → Int64) => lt1 (x6 + (8 : Int32)) (fun (v6_6 : Int32) => (f_D_spread_15 N NW sz k wd_4 x1 x2 x4 v6_6))))
def f_D_spread (N : Nat) (NW : Nat) (sz : Int32) (wd : Nat → Int64) (a1 : Int32) (a2 : Int32) (a3 : Int32) : Option ((Nat → Int64)) := lt1 ((Int32.toInt64 (a3 &&& ((255 : Int32)))) * ((72340172838076673 : Int64))) (fun (v4_1 : Int64) => (f_D_spread_15 N NW sz N wd a1 a2 v4_1 ((0 : Int32))))
def f_D_number_91 (NW : Nat) (sz : Int32) (wd : Nat → Int64) (x3 : Int32) (x6 : Int64) : Option (Int64) := some (x6 &&& (UInt64.toInt64 ((Int64.toUInt64 ((-1 : Int64))) >>> ((Int64.toUInt64 (Int32.toInt64 (((64 : Int32)) - (((8 : Int32)) * x3)))) &&& Int64.toUInt64 63))))
def f_D_number (NW : Nat) (sz : Int32) (wd : Nat → Int64) (a1 : Int64) (a3 : Int32) : Option (Int64) := (if a3 < ((1 : Int32)) then some ((0 : Int64)) else (if ((8 : Int32)) < a3 then some ((0 : Int64)) else (if a1 < ((0 : Int64)) then some ((0 : Int64)) else (if a1 ≤ (Int32.toInt64 (sz - a3)) then lt1 (Int64.toInt32 (a1 >>> ((Int32.toInt64 ((3 : Int32))) &&& 63))) (fun (v4_5 : Int32) => lt1 ((Int64.toInt32 (a1 &&& ((7 : Int64)))) <<< (((3 : Int32)) &&& 31)) (fun (v5_6 : Int32) => if oob v4_5 NW then none else lt1 (UInt64.toInt64 ((Int64.toUInt64 (wd (Int32.toNatClampNeg v4_5))) >>> ((Int64.toUInt64 (Int32.toInt64 v5_6)) &&& Int64.toUInt64 63))) (fun (v6_8 : Int64) => (if (v5_6 + (((8 : Int32)) * a3)) ≤ ((64 : Int32)) then (f_D_number_91 NW sz wd a3 v6_8) else if oob (v4_5 + ((1 : Int32))) NW then none else lt1 (v6_8 ||| ((wd (Int32.toNatClampNeg (v4_5 + ((1 : Int32))))) <<< ((Int32.toInt64 (((64 : Int32)) - v5_6)) &&& 63))) (fun (v6_11 : Int64) => (f_D_number_91 NW sz wd a3 v6_11)))))) else some ((0 : Int64))))))
def f_D_move_77 (N : Nat) (NW : Nat) (sz : Int32) : Nat → (Nat → Int64) → Int32 → Int32 → Int32 → Option ((Nat → Int64))
  | 0, _, _, _, _ => none
  | k+1, wd, x1, x2, x4 => (if x4 < ((8 : Int32)) then bd1 (f_D_number NW sz wd (Int32.toInt64 x1) x4) (fun (r_2 : Int64) => bd1 (f_D_set NW sz wd (Int32.toInt64 x2) x4 r_2) (fun (wd_4 : Nat → Int64) => some (wd_4))) else bd1 (f_D_number NW sz wd (Int32.toInt64 ((x1 + x4) - ((8 : Int32)))) ((8 : Int32))) (fun (r_6 : Int64) => bd1 (f_D_set NW sz wd (Int32.toInt64 ((x2 + x4) - ((8 : Int32)))) ((8 : Int32)) r_6) (fun (wd_8 : Nat → Int64) => lt1 (x4 + (-8 : Int32)) (fun (v4_10 : Int32) => (f_D_move_77 N NW sz k wd_8 x1 x2 v4_10)))))
def f_D_move_8 (N : Nat) (NW : Nat) (sz : Int32) : Nat → (Nat → Int64) → Int32 → Int32 → Int32 → Int32 → Option ((Nat → Int64))
  | 0, _, _, _, _, _ => none
  | k+1, wd, x1, x2, x3, x4 => (if (x3 - ((8 : Int32))) < x4 then bd1 (f_D_number NW sz wd (Int32.toInt64 (x1 + x4)) (x3 - x4)) (fun (r_2 : Int64) => bd1 (f_D_set NW sz wd (Int32.toInt64 (x2 + x4)) (x3 - x4) r_2) (fun (wd_4 : Nat → Int64) => some (wd_4))) else bd1 (f_D_number NW sz wd (Int32.toInt64 (x1 + x4)) ((8 : Int32))) (fun (r_6 : Int64) => bd1 (f_D_set NW sz wd (Int32.toInt64 (x2 + x4)) ((8 : Int32)) r_6) (fun (wd_8 : Nat → Int64) => lt1 (x4 + (8 : Int32)) (fun (v4_10 : Int32) => (f_D_move_8 N NW sz k wd_8 x1 x2 x3 v4_10)))))
def f_D_move (N : Nat) (NW : Nat) (sz : Int32) (wd : Nat → Int64) (a1 : Int32) (a2 : Int32) (a3 : Int32) : Option ((Nat → Int64)) := (if a1 < a2 then (f_D_move_77 N NW sz N wd a1 a2 a3) else (f_D_move_8 N NW sz N wd a1 a2 a3 ((0 : Int32))))
def f_D_blocks (NW : Nat) (bk : Int32) : Option (Int32) := some (bk)
def f_D_bit (NW : Nat) (sz : Int32) (wd : Nat → Int64) (a1 : Int64) (a3 : Int32) : Option (Int32) := bd1 (f_D_number NW sz wd (a1 + (Int32.toInt64 (a3 / ((8 : Int32))))) ((1 : Int32))) (fun (r_1 : Int64) => (if ((r_1 >>> ((Int32.toInt64 (a3 - a3 / ((8 : Int32)) * ((8 : Int32)))) &&& 63)) &&& ((1 : Int64))) = ((0 : Int64)) then some ((0 : Int32)) else some ((1 : Int32))))
def f_D_onesFrom_53 (N : Nat) (NW : Nat) (sz : Int32) (wd : Nat → Int64) : Nat → Int64 → Int32 → Option (Int32)
  | 0, _, _ => none
  | k+1, x1, x4 => (if ((8192 : Int32)) ≤ x4 then some ((1 : Int32)) else bd1 (f_D_number NW sz wd (x1 + (Int32.toInt64 (x4 / ((8 : Int32))))) ((8 : Int32))) (fun (r_2 : Int64) => (if r_2 = ((-1 : Int64)) then lt1 (x4 + (64 : Int32)) (fun (v4_5 : Int32) => (f_D_onesFrom_53 N NW sz wd k x1 v4_5)) else some ((0 : Int32)))))
def f_D_onesFrom_3 (N : Nat) (NW : Nat) (sz : Int32) (wd : Nat → Int64) : Nat → Int64 → Int32 → Option (Int32)
  | 0, _, _ => none
  | k+1, x1, x4 => (if ((8192 : Int32)) ≤ x4 then (f_D_onesFrom_53 N NW sz wd N x1 x4) else (if (x4 - x4 / ((64 : Int32)) * ((64 : Int32))) = 0 then (f_D_onesFrom_53 N NW sz wd N x1 x4) else bd1 (f_D_number NW sz wd (x1 + (Int32.toInt64 (x4 / ((8 : Int32))))) ((1 : Int32))) (fun (r_3 : Int64) => (if ((r_3 >>> ((Int32.toInt64 (x4 - x4 / ((8 : Int32)) * ((8 : Int32)))) &&& 63)) &&& ((1 : Int64))) = ((0 : Int64)) then some ((0 : Int32)) else lt1 (x4 + (1 : Int32)) (fun (v4_6 : Int32) => (f_D_onesFrom_3 N NW sz wd k x1 v4_6))))))
def f_D_onesFrom (N : Nat) (NW : Nat) (sz : Int32) (wd : Nat → Int64) (a1 : Int64) (a3 : Int32) : Option (Int32) := (f_D_onesFrom_3 N NW sz wd N a1 a3)
end
section
set_option maxHeartbeats 4000000 in
set_option maxRecDepth 100000 in
theorem c_D_holds {l : Launch} {dC : Nat → ClassId} {dI : Nat → Nat → Nat} {h : Nat → Nat} {cI : ClassId} {cL : ClassId} {NW : Nat} {bk : Int32} {sz : Int32} {wd : Nat → Int64} {mb : Nat → Int32} {gB : Int32} {gI : Int32} {gN : Int32} {iN : Int32} {dr : Int32} {es : Int64} {of : Int64} {od : Int32} {pl : Int64} {hd : Int64} {tk : Nat → Int32} {kn : Nat → Int32} {li : Nat → Int32} {pa : Nat → Int32} {ins : Nat → Int32} {cm : Int32} {fd : Int32} {hr : Int32} {hs : Nat} {a1 : Int64} {a3 : Int32} {r : Int32} (hf : f_D_holds NW sz a1 a3 = some (r)) : Met l y_D_holds ws_D_holds { frames := 0, cells := 0, slots := 0, locals := 0 } (PcU (dC, dI) clAll [(cI, .int), (cL, .long)] (wC h cI cL NW bk sz wd mb gB gI gN iN dr es of od pl hd tk kn li pa ins cm fd hr) hs [.ref (h 1), .long a1, .int a3]) (QUi (dC, dI) clAll [(cI, .int), (cL, .long)] (wC h cI cL NW bk sz wd mb gB gI gN iN dr es of od pl hd tk kn li pa ins cm fd hr) (wC h cI cL NW bk sz wd mb gB gI gN iN dr es of od pl hd tk kn li pa ins cm fd hr) hs r) 0 0 (va_A (wC h cI cL NW bk sz wd mb gB gI gN iN dr es of od pl hd tk kn li pa ins cm fd hr) hs) := by
  refine mUz (cc := b_D_holds) (maxL := 4) (by decide) rfl (Nat.le_of_ble_eq_true rfl) ?_
  intro p e s m args below meth c Q hx hb hml hts hown A hA hK hP hD hS hret ls hl
  have htb : ∀ w ∈ TB, w.before args s = true := fun w h => hts w (List.mem_cons_of_mem _ h)
  have hl : lv_has ls 4 [(0, .ref (h 1)), (1, .long a1), (3, .int a3)] := hl
  unfold f_D_holds at hf
  refine lv_iload_n hx hb d_D_holds_0 rfl (lv_at hl 2 rfl) ?_
  refine lv_if_eq (tgt := 26) hx hb d_D_holds_1 (by decide) (fun c_1 => ?_) (fun c_1 => ?_)
  · have hf := ite_t c_1 hf
    refine lv_iconst (v := 1) hx hb d_D_holds_26 (by decide) ?_
    refine lv_goto (tgt := 31) hx hb d_D_holds_27 (by decide) ?_
    cases hf
    exact hret _ _ _ _ (Or.inr rfl) hP hD hS d_D_holds_31
  · have hf := ite_f c_1 hf
    refine lv_iload_n hx hb d_D_holds_4 rfl (lv_at hl 2 rfl) ?_
    refine lv_if_le (tgt := 30) hx hb d_D_holds_5 (by decide) (fun c_2 => ?_) (fun c_2 => ?_)
    · have hf := ite_t c_2 hf
      refine lv_iconst (v := 0) hx hb d_D_holds_30 (by decide) ?_
      cases hf
      exact hret _ _ _ _ (Or.inl rfl) hP hD hS d_D_holds_31
    · have hf := ite_f c_2 hf
      refine lv_lload_n hx hb d_D_holds_8 rfl (lv_at hl 1 rfl) ?_
      refine lv_lconst (v := 0) hx hb d_D_holds_9 (by decide) ?_
      refine lc_lt (tgt := 30) hx hb d_D_holds_10 d_D_holds_11 (by decide) (fun c_3 => ?_) (fun c_3 => ?_)
      · have hf := ite_t c_3 hf
        refine lv_iconst (v := 0) hx hb d_D_holds_30 (by decide) ?_
        cases hf
        exact hret _ _ _ _ (Or.inl rfl) hP hD hS d_D_holds_31
      · have hf := ite_f c_3 hf
        refine lv_lload_n hx hb d_D_holds_14 rfl (lv_at hl 1 rfl) ?_
        refine lv_aload_n hx hb d_D_holds_15 rfl (lv_at hl 0 rfl) ?_
        refine va_get (D := (dC, dI)) (ci := 0) (v := .int sz) (C := R_D) (T := T_D) (N := 3) hx hb htb in_D hown hK hP 1 rfl rfl 1 (by decide) (htb _ tw_103) (fun _ h9 => h9) rfl d_D_holds_16 ?_
        refine lv_iload_n hx hb d_D_holds_19 rfl (lv_at hl 2 rfl) ?_
        refine lv_isub hx hb d_D_holds_20 ?_
        refine lv_i2l hx hb d_D_holds_21 rfl ?_
        refine lc_gt (tgt := 30) hx hb d_D_holds_22 d_D_holds_23 (by decide) (fun c_4 => ?_) (fun c_4 => ?_)
        · have hf := ite_t c_4 hf
          refine lv_iconst (v := 0) hx hb d_D_holds_30 (by decide) ?_
          cases hf
          exact hret _ _ _ _ (Or.inl rfl) hP hD hS d_D_holds_31
        · have hf := ite_f c_4 hf
          refine lv_iconst (v := 1) hx hb d_D_holds_26 (by decide) ?_
          refine lv_goto (tgt := 31) hx hb d_D_holds_27 (by decide) ?_
          cases hf
          exact hret _ _ _ _ (Or.inr rfl) hP hD hS d_D_holds_31
set_option maxHeartbeats 4000000 in
set_option maxRecDepth 100000 in
theorem c_D_set {l : Launch} {dC : Nat → ClassId} {dI : Nat → Nat → Nat} {h : Nat → Nat} {cI : ClassId} {cL : ClassId} {NW : Nat} {bk : Int32} {sz : Int32} {wd : Nat → Int64} {mb : Nat → Int32} {gB : Int32} {gI : Int32} {gN : Int32} {iN : Int32} {dr : Int32} {es : Int64} {of : Int64} {od : Int32} {pl : Int64} {hd : Int64} {tk : Nat → Int32} {kn : Nat → Int32} {li : Nat → Int32} {pa : Nat → Int32} {ins : Nat → Int32} {cm : Int32} {fd : Int32} {hr : Int32} {hs : Nat} {a1 : Int64} {a3 : Int32} {a4 : Int64} {wd' : Nat → Int64} (hf : f_D_set NW sz wd a1 a3 a4 = some (wd')) : Met l y_D_set ws_D_set { frames := 0, cells := 0, slots := 0, locals := 0 } (PcU (dC, dI) clAll [(cI, .int), (cL, .long)] (wC h cI cL NW bk sz wd mb gB gI gN iN dr es of od pl hd tk kn li pa ins cm fd hr) hs [.ref (h 1), .long a1, .int a3, .long a4]) (QUv (dC, dI) clAll [(cI, .int), (cL, .long)] (wC h cI cL NW bk sz wd mb gB gI gN iN dr es of od pl hd tk kn li pa ins cm fd hr) (wC h cI cL NW bk sz wd' mb gB gI gN iN dr es of od pl hd tk kn li pa ins cm fd hr) hs) 0 0 (va_A (wC h cI cL NW bk sz wd mb gB gI gN iN dr es of od pl hd tk kn li pa ins cm fd hr) hs) := by
  refine mUv (cc := b_D_set) (maxL := 12) (by decide) rfl (Nat.le_of_ble_eq_true rfl) ?_
  intro p e s m args below meth c Q hx hb hml hts hown A hA hK hP hD hS hret ls hl
  have htb : ∀ w ∈ TB, w.before args s = true := fun w h => hts w (List.mem_cons_of_mem _ h)
  have hl : lv_has ls 12 [(0, .ref (h 1)), (1, .long a1), (3, .int a3), (4, .long a4)] := hl
  unfold f_D_set at hf
  refine lv_iload_n hx hb d_D_set_0 rfl (lv_at hl 2 rfl) ?_
  refine lv_iconst (v := 1) hx hb d_D_set_1 (by decide) ?_
  refine lv_icmp_lt (tgt := 29) hx hb d_D_set_2 (by decide) (fun c_1 => ?_) (fun c_1 => ?_)
  · have hf := ite_t c_1 hf
    cases hf
    exact hret _ _ _ _ hP hD hS d_D_set_29
  · have hf := ite_f c_1 hf
    refine lv_iload_n hx hb d_D_set_5 rfl (lv_at hl 2 rfl) ?_
    refine lv_bipush (v := 8) hx hb d_D_set_6 (by decide) ?_
    refine lv_icmp_gt (tgt := 29) hx hb d_D_set_8 (by decide) (fun c_2 => ?_) (fun c_2 => ?_)
    · have hf := ite_t c_2 hf
      cases hf
      exact hret _ _ _ _ hP hD hS d_D_set_29
    · have hf := ite_f c_2 hf
      refine lv_lload_n hx hb d_D_set_11 rfl (lv_at hl 1 rfl) ?_
      refine lv_lconst (v := 0) hx hb d_D_set_12 (by decide) ?_
      refine lc_lt (tgt := 29) hx hb d_D_set_13 d_D_set_14 (by decide) (fun c_3 => ?_) (fun c_3 => ?_)
      · have hf := ite_t c_3 hf
        cases hf
        exact hret _ _ _ _ hP hD hS d_D_set_29
      · have hf := ite_f c_3 hf
        refine lv_lload_n hx hb d_D_set_17 rfl (lv_at hl 1 rfl) ?_
        refine lv_aload_n hx hb d_D_set_18 rfl (lv_at hl 0 rfl) ?_
        refine va_get (D := (dC, dI)) (ci := 0) (v := .int sz) (C := R_D) (T := T_D) (N := 3) hx hb htb in_D hown hK hP 1 rfl rfl 1 (by decide) (htb _ tw_103) (fun _ h9 => h9) rfl d_D_set_19 ?_
        refine lv_iload_n hx hb d_D_set_22 rfl (lv_at hl 2 rfl) ?_
        refine lv_isub hx hb d_D_set_23 ?_
        refine lv_i2l hx hb d_D_set_24 rfl ?_
        refine lc_le (tgt := 30) hx hb d_D_set_25 d_D_set_26 (by decide) (fun c_4 => ?_) (fun c_4 => ?_)
        · have hf := ite_t c_4 hf
          refine lv_lload_n hx hb d_D_set_30 rfl (lv_at hl 1 rfl) ?_
          refine lv_iconst (v := 3) hx hb d_D_set_31 (by decide) ?_
          refine lv_lshr hx hb d_D_set_32 rfl ?_
          refine lv_l2i hx hb d_D_set_33 rfl ?_
          obtain ⟨v6_5, ev6_5, hf⟩ := lt1_s hf
          refine lv_eqi ev6_5 ?_
          refine lv_istore (lv' := [(6, .int v6_5), (0, .ref (h 1)), (1, .long a1), (3, .int a3), (4, .long a4)]) hx hb d_D_set_34 hl (by decide) rfl (fun ls hl => ?_)
          refine lv_lload_n hx hb d_D_set_36 rfl (lv_at hl 2 rfl) ?_
          refine lv_ldc2 (v := 7) hx hb hown (htb _ tw_235) d_D_set_37 ?_
          refine lv_land hx hb d_D_set_40 ?_
          refine lv_l2i hx hb d_D_set_41 rfl ?_
          refine lv_iconst (v := 3) hx hb d_D_set_42 (by decide) ?_
          refine lv_ishl hx hb d_D_set_43 ?_
          obtain ⟨v7_6, ev7_6, hf⟩ := lt1_s hf
          refine lv_eqi ev7_6 ?_
          refine lv_istore (lv' := [(7, .int v7_6), (6, .int v6_5), (0, .ref (h 1)), (1, .long a1), (3, .int a3), (4, .long a4)]) hx hb d_D_set_44 hl (by decide) rfl (fun ls hl => ?_)
          refine lv_ldc2 (v := -1) hx hb hown (htb _ tw_236) d_D_set_46 ?_
          refine lv_bipush (v := 64) hx hb d_D_set_49 (by decide) ?_
          refine lv_bipush (v := 8) hx hb d_D_set_51 (by decide) ?_
          refine lv_iload_n hx hb d_D_set_53 rfl (lv_at hl 4 rfl) ?_
          refine lv_imul hx hb d_D_set_54 ?_
          refine lv_isub hx hb d_D_set_55 ?_
          refine lv_lushr hx hb d_D_set_56 rfl ?_
          obtain ⟨v8_7, ev8_7, hf⟩ := lt1_s hf
          refine lv_eql ev8_7 ?_
          refine lv_lstore (lv' := [(8, .long v8_7), (7, .int v7_6), (6, .int v6_5), (0, .ref (h 1)), (1, .long a1), (3, .int a3), (4, .long a4)]) hx hb d_D_set_57 hl (by decide) rfl (fun ls hl => ?_)
          refine lv_lload hx hb d_D_set_59 (lv_at hl 6 rfl) ?_
          refine lv_lload hx hb d_D_set_61 (lv_at hl 0 rfl) ?_
          refine lv_land hx hb d_D_set_63 ?_
          obtain ⟨v10_8, ev10_8, hf⟩ := lt1_s hf
          refine lv_eql ev10_8 ?_
          refine lv_lstore (lv' := [(10, .long v10_8), (8, .long v8_7), (7, .int v7_6), (6, .int v6_5), (0, .ref (h 1)), (1, .long a1), (3, .int a3), (4, .long a4)]) hx hb d_D_set_64 hl (by decide) rfl (fun ls hl => ?_)
          refine lv_aload_n hx hb d_D_set_66 rfl (lv_at hl 4 rfl) ?_
          refine va_get (D := (dC, dI)) (ci := 0) (v := .ref (h 2)) (C := R_D) (T := T_D) (N := 3) hx hb htb in_D hown hK hP 1 rfl rfl 2 (by decide) (htb _ tw_104) (fun _ h9 => h9) rfl d_D_set_67 ?_
          refine lv_iload hx hb d_D_set_70 (lv_at hl 3 rfl) ?_
          refine lv_aload_n hx hb d_D_set_72 rfl (lv_at hl 4 rfl) ?_
          refine va_get (D := (dC, dI)) (ci := 0) (v := .ref (h 2)) (C := R_D) (T := T_D) (N := 3) hx hb htb in_D hown hK hP 1 rfl rfl 2 (by decide) (htb _ tw_104) (fun _ h9 => h9) rfl d_D_set_73 ?_
          refine lv_iload hx hb d_D_set_76 (lv_at hl 3 rfl) ?_
          obtain ⟨c_9, hf⟩ := gd_s hf
          refine va_lald (i := v6_5) hx hb hK hP 2 1 rfl rfl c_9 d_D_set_78 ?_
          refine lv_lload hx hb d_D_set_79 (lv_at hl 1 rfl) ?_
          refine lv_iload hx hb d_D_set_81 (lv_at hl 2 rfl) ?_
          refine lv_lshl hx hb d_D_set_83 rfl ?_
          refine lv_ldc2 (v := -1) hx hb hown (htb _ tw_236) d_D_set_84 ?_
          refine lv_lxor hx hb d_D_set_87 ?_
          refine lv_land hx hb d_D_set_88 ?_
          refine lv_lload hx hb d_D_set_89 (lv_at hl 0 rfl) ?_
          refine lv_iload hx hb d_D_set_91 (lv_at hl 2 rfl) ?_
          refine lv_lshl hx hb d_D_set_93 rfl ?_
          refine lv_lor hx hb d_D_set_94 ?_
          obtain ⟨c_10, hf⟩ := gd_s hf
          refine va_last (i := v6_5) (x := ((wd (Int32.toNatClampNeg v6_5)) &&& ((v8_7 <<< ((Int32.toInt64 v7_6) &&& 63)) ^^^ ((-1 : Int64)))) ||| (v10_8 <<< ((Int32.toInt64 v7_6) &&& 63))) hx hb hK hP hD hS 2 1 rfl rfl c_10 d_D_set_95 (fun H locs hP hD hS => ?_)
          obtain ⟨wd_11, ewd_11, hf⟩ := lt1_s hf
          have hP : va_P (dC, dI) clAll (wC h cI cL NW bk sz wd_11 mb gB gI gN iN dr es of od pl hd tk kn li pa ins cm fd hr) H := ewd_11 ▸ hP
          have hD : va_D A (wC h cI cL NW bk sz wd_11 mb gB gI gN iN dr es of od pl hd tk kn li pa ins cm fd hr) := ewd_11 ▸ hD
          refine lv_iload hx hb d_D_set_96 (lv_at hl 2 rfl) ?_
          refine lv_bipush (v := 8) hx hb d_D_set_98 (by decide) ?_
          refine lv_iload_n hx hb d_D_set_100 rfl (lv_at hl 6 rfl) ?_
          refine lv_imul hx hb d_D_set_101 ?_
          refine lv_iadd hx hb d_D_set_102 ?_
          refine lv_bipush (v := 64) hx hb d_D_set_103 (by decide) ?_
          refine lv_icmp_le (tgt := 148) hx hb d_D_set_105 (by decide) (fun c_12 => ?_) (fun c_12 => ?_)
          · have hf := ite_t c_12 hf
            cases hf
            exact hret _ _ _ _ hP hD hS d_D_set_148
          · have hf := ite_f c_12 hf
            refine lv_aload_n hx hb d_D_set_108 rfl (lv_at hl 4 rfl) ?_
            refine va_get (D := (dC, dI)) (ci := 0) (v := .ref (h 2)) (C := R_D) (T := T_D) (N := 3) hx hb htb in_D hown hK hP 1 rfl rfl 2 (by decide) (htb _ tw_104) (fun _ h9 => h9) rfl d_D_set_109 ?_
            refine lv_iload hx hb d_D_set_112 (lv_at hl 3 rfl) ?_
            refine lv_iconst (v := 1) hx hb d_D_set_114 (by decide) ?_
            refine lv_iadd hx hb d_D_set_115 ?_
            refine lv_aload_n hx hb d_D_set_116 rfl (lv_at hl 4 rfl) ?_
            refine va_get (D := (dC, dI)) (ci := 0) (v := .ref (h 2)) (C := R_D) (T := T_D) (N := 3) hx hb htb in_D hown hK hP 1 rfl rfl 2 (by decide) (htb _ tw_104) (fun _ h9 => h9) rfl d_D_set_117 ?_
            refine lv_iload hx hb d_D_set_120 (lv_at hl 3 rfl) ?_
            refine lv_iconst (v := 1) hx hb d_D_set_122 (by decide) ?_
            refine lv_iadd hx hb d_D_set_123 ?_
            obtain ⟨c_13, hf⟩ := gd_s hf
            refine va_lald (i := v6_5 + ((1 : Int32))) hx hb hK hP 2 1 rfl rfl c_13 d_D_set_124 ?_
            refine lv_lload hx hb d_D_set_125 (lv_at hl 1 rfl) ?_
            refine lv_bipush (v := 64) hx hb d_D_set_127 (by decide) ?_
            refine lv_iload hx hb d_D_set_129 (lv_at hl 2 rfl) ?_
            refine lv_isub hx hb d_D_set_131 ?_
            refine lv_lushr hx hb d_D_set_132 rfl ?_
            refine lv_ldc2 (v := -1) hx hb hown (htb _ tw_236) d_D_set_133 ?_
            refine lv_lxor hx hb d_D_set_136 ?_
            refine lv_land hx hb d_D_set_137 ?_
            refine lv_lload hx hb d_D_set_138 (lv_at hl 0 rfl) ?_
            refine lv_bipush (v := 64) hx hb d_D_set_140 (by decide) ?_
            refine lv_iload hx hb d_D_set_142 (lv_at hl 2 rfl) ?_
            refine lv_isub hx hb d_D_set_144 ?_
            refine lv_lushr hx hb d_D_set_145 rfl ?_
            refine lv_lor hx hb d_D_set_146 ?_
            obtain ⟨c_14, hf⟩ := gd_s hf
            refine va_last (i := v6_5 + ((1 : Int32))) (x := ((wd_11 (Int32.toNatClampNeg (v6_5 + ((1 : Int32))))) &&& ((UInt64.toInt64 ((Int64.toUInt64 v8_7) >>> ((Int64.toUInt64 (Int32.toInt64 (((64 : Int32)) - v7_6))) &&& Int64.toUInt64 63))) ^^^ ((-1 : Int64)))) ||| (UInt64.toInt64 ((Int64.toUInt64 v10_8) >>> ((Int64.toUInt64 (Int32.toInt64 (((64 : Int32)) - v7_6))) &&& Int64.toUInt64 63)))) hx hb hK hP hD hS 2 1 rfl rfl c_14 d_D_set_147 (fun H locs hP hD hS => ?_)
            obtain ⟨wd_15, ewd_15, hf⟩ := lt1_s hf
            have hP : va_P (dC, dI) clAll (wC h cI cL NW bk sz wd_15 mb gB gI gN iN dr es of od pl hd tk kn li pa ins cm fd hr) H := ewd_15 ▸ hP
            have hD : va_D A (wC h cI cL NW bk sz wd_15 mb gB gI gN iN dr es of od pl hd tk kn li pa ins cm fd hr) := ewd_15 ▸ hD
            cases hf
            exact hret _ _ _ _ hP hD hS d_D_set_148
        · have hf := ite_f c_4 hf
          cases hf
          exact hret _ _ _ _ hP hD hS d_D_set_29
set_option maxHeartbeats 4000000 in
set_option maxRecDepth 100000 in
theorem c_D_spread {l : Launch} {dC : Nat → ClassId} {dI : Nat → Nat → Nat} {N : Nat} {h : Nat → Nat} {cI : ClassId} {cL : ClassId} {NW : Nat} {bk : Int32} {sz : Int32} {wd : Nat → Int64} {mb : Nat → Int32} {gB : Int32} {gI : Int32} {gN : Int32} {iN : Int32} {dr : Int32} {es : Int64} {of : Int64} {od : Int32} {pl : Int64} {hd : Int64} {tk : Nat → Int32} {kn : Nat → Int32} {li : Nat → Int32} {pa : Nat → Int32} {ins : Nat → Int32} {cm : Int32} {fd : Int32} {hr : Int32} {hs : Nat} {a1 : Int32} {a2 : Int32} {a3 : Int32} {wd' : Nat → Int64} (hf : f_D_spread N NW sz wd a1 a2 a3 = some (wd')) : Met l y_D_spread ws_D_spread { frames := 1, cells := 0, slots := 0, locals := 31 } (PcU (dC, dI) clAll [(cI, .int), (cL, .long)] (wC h cI cL NW bk sz wd mb gB gI gN iN dr es of od pl hd tk kn li pa ins cm fd hr) hs [.ref (h 1), .int a1, .int a2, .int a3]) (QUv (dC, dI) clAll [(cI, .int), (cL, .long)] (wC h cI cL NW bk sz wd mb gB gI gN iN dr es of od pl hd tk kn li pa ins cm fd hr) (wC h cI cL NW bk sz wd' mb gB gI gN iN dr es of od pl hd tk kn li pa ins cm fd hr) hs) 0 0 (va_A (wC h cI cL NW bk sz wd mb gB gI gN iN dr es of od pl hd tk kn li pa ins cm fd hr) hs) := by
  refine mUv (cc := b_D_spread) (maxL := 7) (by decide) rfl (Nat.le_of_ble_eq_true rfl) ?_
  intro p e s m args below meth c Q hx hb hml hts hown A hA hK hP hD hS hret ls hl
  have htb : ∀ w ∈ TB, w.before args s = true := fun w h => hts w (List.mem_cons_of_mem _ h)
  have hl : lv_has ls 7 [(0, .ref (h 1)), (1, .int a1), (2, .int a2), (3, .int a3)] := hl
  have hj_15 : ∀ (k_15 : Nat) (wd : Nat → Int64) (x1 : Int32) (x2 : Int32) (x4 : Int64) (x6 : Int32) (H : Heap) (locs : List Loc) (ls : Array Slot), f_D_spread_15 N NW sz k_15 wd x1 x2 x4 x6 = some (wd') → va_P (dC, dI) clAll (wC h cI cL NW bk sz wd mb gB gI gN iN dr es of od pl hd tk kn li pa ins cm fd hr) H → va_D A (wC h cI cL NW bk sz wd mb gB gI gN iN dr es of od pl hd tk kn li pa ins cm fd hr) → va_S A s.heap H locs → lv_has ls 7 [(0, .ref (h 1)), (1, .int x1), (2, .int x2), (4, .long x4), (6, .int x6)] → W p l e (headSpec ws_D_spread { frames := 1, cells := 0, slots := 0, locals := 31 }).room s m args below meth c H locs 0 0 Q (F0 m 15 ls []) := by
    intro k_15
    induction k_15 with
    | zero => intro _ _ _ _ _ _ _ _ hf; exact absurd hf (by simp [f_D_spread_15])
    | succ k_15 ih_15 =>
      intro wd x1 x2 x4 x6 H locs ls hf hP hD hS hl
      rw [f_D_spread_15] at hf
      refine lv_iload hx hb d_D_spread_15 (lv_at hl 4 rfl) ?_
      refine lv_iload_n hx hb d_D_spread_17 rfl (lv_at hl 2 rfl) ?_
      refine lv_bipush (v := 8) hx hb d_D_spread_18 (by decide) ?_
      refine lv_isub hx hb d_D_spread_20 ?_
      refine lv_icmp_gt (tgt := 43) hx hb d_D_spread_21 (by decide) (fun c_1 => ?_) (fun c_1 => ?_)
      · have hf := ite_t c_1 hf
        refine lv_aload_n hx hb d_D_spread_43 rfl (lv_at hl 0 rfl) ?_
        refine lv_iload_n hx hb d_D_spread_44 rfl (lv_at hl 1 rfl) ?_
        refine lv_iload hx hb d_D_spread_45 (lv_at hl 4 rfl) ?_
        refine lv_iadd hx hb d_D_spread_47 ?_
        refine lv_i2l hx hb d_D_spread_48 rfl ?_
        refine lv_iload_n hx hb d_D_spread_49 rfl (lv_at hl 2 rfl) ?_
        refine lv_iload hx hb d_D_spread_50 (lv_at hl 4 rfl) ?_
        refine lv_isub hx hb d_D_spread_52 ?_
        refine lv_lload hx hb d_D_spread_53 (lv_at hl 3 rfl) ?_
        obtain ⟨wd_2, hc_3, hf⟩ := bd1_s hf
        refine ucVv (As := [.long (Int32.toInt64 (x1 + x6)), .int (x2 - x6), .long x4]) (rest := []) ⟨hx, hb, hml, hown, htb⟩ hK hP hD hS hA (fun hs => c_D_set hc_3) (cwV 3 htb (gV tw_254 tw_232 tw_233 tw_69 tw_234) rfl rfl rfl (by decide +kernel) ⟨Nat.le_of_ble_eq_true rfl, Nat.le_of_ble_eq_true rfl⟩) 1 0 rfl rfl rfl rfl rfl hl.1 (Nat.le_of_ble_eq_true rfl) d_D_spread_55 ⟨Nat.zero_le _, Nat.zero_le _⟩ (fun H locs hP hD hS => ?_)
        cases hf
        exact hret _ _ _ _ hP hD hS d_D_spread_58
      · have hf := ite_f c_1 hf
        refine lv_aload_n hx hb d_D_spread_24 rfl (lv_at hl 0 rfl) ?_
        refine lv_iload_n hx hb d_D_spread_25 rfl (lv_at hl 1 rfl) ?_
        refine lv_iload hx hb d_D_spread_26 (lv_at hl 4 rfl) ?_
        refine lv_iadd hx hb d_D_spread_28 ?_
        refine lv_i2l hx hb d_D_spread_29 rfl ?_
        refine lv_bipush (v := 8) hx hb d_D_spread_30 (by decide) ?_
        refine lv_lload hx hb d_D_spread_32 (lv_at hl 3 rfl) ?_
        obtain ⟨wd_4, hc_5, hf⟩ := bd1_s hf
        refine ucVv (As := [.long (Int32.toInt64 (x1 + x6)), .int ((8 : Int32)), .long x4]) (rest := []) ⟨hx, hb, hml, hown, htb⟩ hK hP hD hS hA (fun hs => c_D_set hc_5) (cwV 3 htb (gV tw_254 tw_232 tw_233 tw_69 tw_234) rfl rfl rfl (by decide +kernel) ⟨Nat.le_of_ble_eq_true rfl, Nat.le_of_ble_eq_true rfl⟩) 1 0 rfl rfl rfl rfl rfl hl.1 (Nat.le_of_ble_eq_true rfl) d_D_spread_34 ⟨Nat.zero_le _, Nat.zero_le _⟩ (fun H locs hP hD hS => ?_)
        obtain ⟨v6_6, ev6_6, hf⟩ := lt1_s hf
        refine lv_iinc (v := v6_6) (lv' := [(6, .int v6_6), (0, .ref (h 1)), (1, .int x1), (2, .int x2), (4, .long x4)]) hx hb d_D_spread_37 hl (k := 4) rfl (by rw [← ev6_6]; rfl) (by decide) rfl (fun ls hl => ?_)
        refine lv_goto (tgt := 15) hx hb d_D_spread_40 (by decide) ?_
        exact ih_15 wd_4 x1 x2 x4 v6_6 _ _ _ hf hP hD hS (lv_sub hl [1, 2, 3, 4, 0] rfl)
  unfold f_D_spread at hf
  refine lv_iload_n hx hb d_D_spread_0 rfl (lv_at hl 3 rfl) ?_
  refine lv_sipush (v := 255) hx hb d_D_spread_1 (by decide) ?_
  refine lv_iand hx hb d_D_spread_4 ?_
  refine lv_i2l hx hb d_D_spread_5 rfl ?_
  refine lv_ldc2 (v := 72340172838076673) hx hb hown (htb _ tw_253) d_D_spread_6 ?_
  refine lv_lmul hx hb d_D_spread_9 ?_
  obtain ⟨v4_1, ev4_1, hf⟩ := lt1_s hf
  refine lv_eql ev4_1 ?_
  refine lv_lstore (lv' := [(4, .long v4_1), (0, .ref (h 1)), (1, .int a1), (2, .int a2), (3, .int a3)]) hx hb d_D_spread_10 hl (by decide) rfl (fun ls hl => ?_)
  refine lv_iconst (v := 0) hx hb d_D_spread_12 (by decide) ?_
  refine lv_istore (lv' := [(6, .int ((0 : Int32))), (4, .long v4_1), (0, .ref (h 1)), (1, .int a1), (2, .int a2), (3, .int a3)]) hx hb d_D_spread_13 hl (by decide) rfl (fun ls hl => ?_)
  exact hj_15 N wd a1 a2 v4_1 ((0 : Int32)) _ _ _ hf hP hD hS (lv_sub hl [2, 3, 4, 1, 0] rfl)
set_option maxHeartbeats 4000000 in
set_option maxRecDepth 100000 in
theorem c_D_number {l : Launch} {dC : Nat → ClassId} {dI : Nat → Nat → Nat} {h : Nat → Nat} {cI : ClassId} {cL : ClassId} {NW : Nat} {bk : Int32} {sz : Int32} {wd : Nat → Int64} {mb : Nat → Int32} {gB : Int32} {gI : Int32} {gN : Int32} {iN : Int32} {dr : Int32} {es : Int64} {of : Int64} {od : Int32} {pl : Int64} {hd : Int64} {tk : Nat → Int32} {kn : Nat → Int32} {li : Nat → Int32} {pa : Nat → Int32} {ins : Nat → Int32} {cm : Int32} {fd : Int32} {hr : Int32} {hs : Nat} {a1 : Int64} {a3 : Int32} {r : Int64} (hf : f_D_number NW sz wd a1 a3 = some (r)) : Met l y_D_number ws_D_number { frames := 0, cells := 0, slots := 0, locals := 0 } (PcU (dC, dI) clAll [(cI, .int), (cL, .long)] (wC h cI cL NW bk sz wd mb gB gI gN iN dr es of od pl hd tk kn li pa ins cm fd hr) hs [.ref (h 1), .long a1, .int a3]) (QUl (dC, dI) clAll [(cI, .int), (cL, .long)] (wC h cI cL NW bk sz wd mb gB gI gN iN dr es of od pl hd tk kn li pa ins cm fd hr) (wC h cI cL NW bk sz wd mb gB gI gN iN dr es of od pl hd tk kn li pa ins cm fd hr) hs r) 0 0 (va_A (wC h cI cL NW bk sz wd mb gB gI gN iN dr es of od pl hd tk kn li pa ins cm fd hr) hs) := by
  refine mUl (cc := b_D_number) (maxL := 8) (by decide) rfl (Nat.le_of_ble_eq_true rfl) ?_
  intro p e s m args below meth c Q hx hb hml hts hown A hA hK hP hD hS hret ls hl
  have htb : ∀ w ∈ TB, w.before args s = true := fun w h => hts w (List.mem_cons_of_mem _ h)
  have hl : lv_has ls 8 [(0, .ref (h 1)), (1, .long a1), (3, .int a3)] := hl
  have hj_91 : ∀ (x3 : Int32) (x6 : Int64) (H : Heap) (locs : List Loc) (ls : Array Slot), f_D_number_91 NW sz wd x3 x6 = some (r) → va_P (dC, dI) clAll (wC h cI cL NW bk sz wd mb gB gI gN iN dr es of od pl hd tk kn li pa ins cm fd hr) H → va_D A (wC h cI cL NW bk sz wd mb gB gI gN iN dr es of od pl hd tk kn li pa ins cm fd hr) → va_S A s.heap H locs → lv_has ls 8 [(3, .int x3), (6, .long x6)] → W p l e (headSpec ws_D_number { frames := 0, cells := 0, slots := 0, locals := 0 }).room s m args below meth c H locs 0 0 Q (F0 m 91 ls []) := by
    intro x3 x6 H locs ls hf hP hD hS hl
    unfold f_D_number_91 at hf
    refine lv_lload hx hb d_D_number_91 (lv_at hl 1 rfl) ?_
    refine lv_ldc2 (v := -1) hx hb hown (htb _ tw_236) d_D_number_93 ?_
    refine lv_bipush (v := 64) hx hb d_D_number_96 (by decide) ?_
    refine lv_bipush (v := 8) hx hb d_D_number_98 (by decide) ?_
    refine lv_iload_n hx hb d_D_number_100 rfl (lv_at hl 0 rfl) ?_
    refine lv_imul hx hb d_D_number_101 ?_
    refine lv_isub hx hb d_D_number_102 ?_
    refine lv_lushr hx hb d_D_number_103 rfl ?_
    refine lv_land hx hb d_D_number_104 ?_
    cases hf
    exact hret _ _ _ _ hP hD hS d_D_number_105
  unfold f_D_number at hf
  refine lv_iload_n hx hb d_D_number_0 rfl (lv_at hl 2 rfl) ?_
  refine lv_iconst (v := 1) hx hb d_D_number_1 (by decide) ?_
  refine lv_icmp_lt (tgt := 29) hx hb d_D_number_2 (by decide) (fun c_1 => ?_) (fun c_1 => ?_)
  · have hf := ite_t c_1 hf
    refine lv_lconst (v := 0) hx hb d_D_number_29 (by decide) ?_
    cases hf
    exact hret _ _ _ _ hP hD hS d_D_number_30
  · have hf := ite_f c_1 hf
    refine lv_iload_n hx hb d_D_number_5 rfl (lv_at hl 2 rfl) ?_
    refine lv_bipush (v := 8) hx hb d_D_number_6 (by decide) ?_
    refine lv_icmp_gt (tgt := 29) hx hb d_D_number_8 (by decide) (fun c_2 => ?_) (fun c_2 => ?_)
    · have hf := ite_t c_2 hf
      refine lv_lconst (v := 0) hx hb d_D_number_29 (by decide) ?_
      cases hf
      exact hret _ _ _ _ hP hD hS d_D_number_30
    · have hf := ite_f c_2 hf
      refine lv_lload_n hx hb d_D_number_11 rfl (lv_at hl 1 rfl) ?_
      refine lv_lconst (v := 0) hx hb d_D_number_12 (by decide) ?_
      refine lc_lt (tgt := 29) hx hb d_D_number_13 d_D_number_14 (by decide) (fun c_3 => ?_) (fun c_3 => ?_)
      · have hf := ite_t c_3 hf
        refine lv_lconst (v := 0) hx hb d_D_number_29 (by decide) ?_
        cases hf
        exact hret _ _ _ _ hP hD hS d_D_number_30
      · have hf := ite_f c_3 hf
        refine lv_lload_n hx hb d_D_number_17 rfl (lv_at hl 1 rfl) ?_
        refine lv_aload_n hx hb d_D_number_18 rfl (lv_at hl 0 rfl) ?_
        refine va_get (D := (dC, dI)) (ci := 0) (v := .int sz) (C := R_D) (T := T_D) (N := 3) hx hb htb in_D hown hK hP 1 rfl rfl 1 (by decide) (htb _ tw_103) (fun _ h9 => h9) rfl d_D_number_19 ?_
        refine lv_iload_n hx hb d_D_number_22 rfl (lv_at hl 2 rfl) ?_
        refine lv_isub hx hb d_D_number_23 ?_
        refine lv_i2l hx hb d_D_number_24 rfl ?_
        refine lc_le (tgt := 31) hx hb d_D_number_25 d_D_number_26 (by decide) (fun c_4 => ?_) (fun c_4 => ?_)
        · have hf := ite_t c_4 hf
          refine lv_lload_n hx hb d_D_number_31 rfl (lv_at hl 1 rfl) ?_
          refine lv_iconst (v := 3) hx hb d_D_number_32 (by decide) ?_
          refine lv_lshr hx hb d_D_number_33 rfl ?_
          refine lv_l2i hx hb d_D_number_34 rfl ?_
          obtain ⟨v4_5, ev4_5, hf⟩ := lt1_s hf
          refine lv_eqi ev4_5 ?_
          refine lv_istore (lv' := [(4, .int v4_5), (0, .ref (h 1)), (1, .long a1), (3, .int a3)]) hx hb d_D_number_35 hl (by decide) rfl (fun ls hl => ?_)
          refine lv_lload_n hx hb d_D_number_37 rfl (lv_at hl 2 rfl) ?_
          refine lv_ldc2 (v := 7) hx hb hown (htb _ tw_235) d_D_number_38 ?_
          refine lv_land hx hb d_D_number_41 ?_
          refine lv_l2i hx hb d_D_number_42 rfl ?_
          refine lv_iconst (v := 3) hx hb d_D_number_43 (by decide) ?_
          refine lv_ishl hx hb d_D_number_44 ?_
          obtain ⟨v5_6, ev5_6, hf⟩ := lt1_s hf
          refine lv_eqi ev5_6 ?_
          refine lv_istore (lv' := [(5, .int v5_6), (4, .int v4_5), (0, .ref (h 1)), (1, .long a1), (3, .int a3)]) hx hb d_D_number_45 hl (by decide) rfl (fun ls hl => ?_)
          refine lv_aload_n hx hb d_D_number_47 rfl (lv_at hl 2 rfl) ?_
          refine va_get (D := (dC, dI)) (ci := 0) (v := .ref (h 2)) (C := R_D) (T := T_D) (N := 3) hx hb htb in_D hown hK hP 1 rfl rfl 2 (by decide) (htb _ tw_104) (fun _ h9 => h9) rfl d_D_number_48 ?_
          refine lv_iload hx hb d_D_number_51 (lv_at hl 1 rfl) ?_
          obtain ⟨c_7, hf⟩ := gd_s hf
          refine va_lald (i := v4_5) hx hb hK hP 2 1 rfl rfl c_7 d_D_number_53 ?_
          refine lv_iload hx hb d_D_number_54 (lv_at hl 0 rfl) ?_
          refine lv_lushr hx hb d_D_number_56 rfl ?_
          obtain ⟨v6_8, ev6_8, hf⟩ := lt1_s hf
          refine lv_eql ev6_8 ?_
          refine lv_lstore (lv' := [(6, .long v6_8), (5, .int v5_6), (4, .int v4_5), (0, .ref (h 1)), (1, .long a1), (3, .int a3)]) hx hb d_D_number_57 hl (by decide) rfl (fun ls hl => ?_)
          refine lv_iload hx hb d_D_number_59 (lv_at hl 1 rfl) ?_
          refine lv_bipush (v := 8) hx hb d_D_number_61 (by decide) ?_
          refine lv_iload_n hx hb d_D_number_63 rfl (lv_at hl 5 rfl) ?_
          refine lv_imul hx hb d_D_number_64 ?_
          refine lv_iadd hx hb d_D_number_65 ?_
          refine lv_bipush (v := 64) hx hb d_D_number_66 (by decide) ?_
          refine lv_icmp_le (tgt := 91) hx hb d_D_number_68 (by decide) (fun c_9 => ?_) (fun c_9 => ?_)
          · have hf := ite_t c_9 hf
            exact hj_91 a3 v6_8 _ _ _ hf hP hD hS (lv_sub hl [5, 0] rfl)
          · have hf := ite_f c_9 hf
            refine lv_lload hx hb d_D_number_71 (lv_at hl 0 rfl) ?_
            refine lv_aload_n hx hb d_D_number_73 rfl (lv_at hl 3 rfl) ?_
            refine va_get (D := (dC, dI)) (ci := 0) (v := .ref (h 2)) (C := R_D) (T := T_D) (N := 3) hx hb htb in_D hown hK hP 1 rfl rfl 2 (by decide) (htb _ tw_104) (fun _ h9 => h9) rfl d_D_number_74 ?_
            refine lv_iload hx hb d_D_number_77 (lv_at hl 2 rfl) ?_
            refine lv_iconst (v := 1) hx hb d_D_number_79 (by decide) ?_
            refine lv_iadd hx hb d_D_number_80 ?_
            obtain ⟨c_10, hf⟩ := gd_s hf
            refine va_lald (i := v4_5 + ((1 : Int32))) hx hb hK hP 2 1 rfl rfl c_10 d_D_number_81 ?_
            refine lv_bipush (v := 64) hx hb d_D_number_82 (by decide) ?_
            refine lv_iload hx hb d_D_number_84 (lv_at hl 1 rfl) ?_
            refine lv_isub hx hb d_D_number_86 ?_
            refine lv_lshl hx hb d_D_number_87 rfl ?_
            refine lv_lor hx hb d_D_number_88 ?_
            obtain ⟨v6_11, ev6_11, hf⟩ := lt1_s hf
            refine lv_eql ev6_11 ?_
            refine lv_lstore (lv' := [(6, .long v6_11), (5, .int v5_6), (4, .int v4_5), (0, .ref (h 1)), (1, .long a1), (3, .int a3)]) hx hb d_D_number_89 hl (by decide) rfl (fun ls hl => ?_)
            exact hj_91 a3 v6_11 _ _ _ hf hP hD hS (lv_sub hl [5, 0] rfl)
        · have hf := ite_f c_4 hf
          refine lv_lconst (v := 0) hx hb d_D_number_29 (by decide) ?_
          cases hf
          exact hret _ _ _ _ hP hD hS d_D_number_30
set_option maxHeartbeats 4000000 in
set_option maxRecDepth 100000 in
theorem c_D_move {l : Launch} {dC : Nat → ClassId} {dI : Nat → Nat → Nat} {N : Nat} {h : Nat → Nat} {cI : ClassId} {cL : ClassId} {NW : Nat} {bk : Int32} {sz : Int32} {wd : Nat → Int64} {mb : Nat → Int32} {gB : Int32} {gI : Int32} {gN : Int32} {iN : Int32} {dr : Int32} {es : Int64} {of : Int64} {od : Int32} {pl : Int64} {hd : Int64} {tk : Nat → Int32} {kn : Nat → Int32} {li : Nat → Int32} {pa : Nat → Int32} {ins : Nat → Int32} {cm : Int32} {fd : Int32} {hr : Int32} {hs : Nat} {a1 : Int32} {a2 : Int32} {a3 : Int32} {wd' : Nat → Int64} (hf : f_D_move N NW sz wd a1 a2 a3 = some (wd')) : Met l y_D_move ws_D_move { frames := 1, cells := 0, slots := 0, locals := 31 } (PcU (dC, dI) clAll [(cI, .int), (cL, .long)] (wC h cI cL NW bk sz wd mb gB gI gN iN dr es of od pl hd tk kn li pa ins cm fd hr) hs [.ref (h 1), .int a1, .int a2, .int a3]) (QUv (dC, dI) clAll [(cI, .int), (cL, .long)] (wC h cI cL NW bk sz wd mb gB gI gN iN dr es of od pl hd tk kn li pa ins cm fd hr) (wC h cI cL NW bk sz wd' mb gB gI gN iN dr es of od pl hd tk kn li pa ins cm fd hr) hs) 0 0 (va_A (wC h cI cL NW bk sz wd mb gB gI gN iN dr es of od pl hd tk kn li pa ins cm fd hr) hs) := by
  refine mUv (cc := b_D_move) (maxL := 5) (by decide) rfl (Nat.le_of_ble_eq_true rfl) ?_
  intro p e s m args below meth c Q hx hb hml hts hown A hA hK hP hD hS hret ls hl
  have htb : ∀ w ∈ TB, w.before args s = true := fun w h => hts w (List.mem_cons_of_mem _ h)
  have hl : lv_has ls 5 [(0, .ref (h 1)), (1, .int a1), (2, .int a2), (3, .int a3)] := hl
  have hj_77 : ∀ (k_77 : Nat) (wd : Nat → Int64) (x1 : Int32) (x2 : Int32) (x4 : Int32) (H : Heap) (locs : List Loc) (ls : Array Slot), f_D_move_77 N NW sz k_77 wd x1 x2 x4 = some (wd') → va_P (dC, dI) clAll (wC h cI cL NW bk sz wd mb gB gI gN iN dr es of od pl hd tk kn li pa ins cm fd hr) H → va_D A (wC h cI cL NW bk sz wd mb gB gI gN iN dr es of od pl hd tk kn li pa ins cm fd hr) → va_S A s.heap H locs → lv_has ls 5 [(0, .ref (h 1)), (1, .int x1), (2, .int x2), (4, .int x4)] → W p l e (headSpec ws_D_move { frames := 1, cells := 0, slots := 0, locals := 31 }).room s m args below meth c H locs 0 0 Q (F0 m 77 ls []) := by
    intro k_77
    induction k_77 with
    | zero => intro _ _ _ _ _ _ _ hf; exact absurd hf (by simp [f_D_move_77])
    | succ k_77 ih_77 =>
      intro wd x1 x2 x4 H locs ls hf hP hD hS hl
      rw [f_D_move_77] at hf
      refine lv_iload hx hb d_D_move_77 (lv_at hl 3 rfl) ?_
      refine lv_bipush (v := 8) hx hb d_D_move_79 (by decide) ?_
      refine lv_icmp_lt (tgt := 118) hx hb d_D_move_81 (by decide) (fun c_1 => ?_) (fun c_1 => ?_)
      · have hf := ite_t c_1 hf
        refine lv_aload_n hx hb d_D_move_118 rfl (lv_at hl 0 rfl) ?_
        refine lv_iload_n hx hb d_D_move_119 rfl (lv_at hl 2 rfl) ?_
        refine lv_i2l hx hb d_D_move_120 rfl ?_
        refine lv_iload hx hb d_D_move_121 (lv_at hl 3 rfl) ?_
        refine lv_aload_n hx hb d_D_move_123 rfl (lv_at hl 0 rfl) ?_
        refine lv_iload_n hx hb d_D_move_124 rfl (lv_at hl 1 rfl) ?_
        refine lv_i2l hx hb d_D_move_125 rfl ?_
        refine lv_iload hx hb d_D_move_126 (lv_at hl 3 rfl) ?_
        obtain ⟨r_2, hc_3, hf⟩ := bd1_s hf
        refine ucVl (As := [.long (Int32.toInt64 x1), .int x4]) (rest := [.int x4, .long (Int32.toInt64 x2), .ref (h 1)]) ⟨hx, hb, hml, hown, htb⟩ hK hP hD hS hA (fun hs => c_D_number hc_3) (cwV 2 htb (gV tw_263 tw_264 tw_265 tw_69 tw_266) rfl rfl rfl (by decide +kernel) ⟨Nat.le_of_ble_eq_true rfl, Nat.le_of_ble_eq_true rfl⟩) 1 0 rfl rfl rfl rfl rfl hl.1 (Nat.le_of_ble_eq_true rfl) d_D_move_128 ⟨Nat.zero_le _, Nat.zero_le _⟩ (fun H locs hP hD hS => ?_)
        obtain ⟨wd_4, hc_5, hf⟩ := bd1_s hf
        refine ucVv (As := [.long (Int32.toInt64 x2), .int x4, .long r_2]) (rest := []) ⟨hx, hb, hml, hown, htb⟩ hK hP hD hS hA (fun hs => c_D_set hc_5) (cwV 3 htb (gV tw_254 tw_232 tw_233 tw_69 tw_234) rfl rfl rfl (by decide +kernel) ⟨Nat.le_of_ble_eq_true rfl, Nat.le_of_ble_eq_true rfl⟩) 1 0 rfl rfl rfl rfl rfl hl.1 (Nat.le_of_ble_eq_true rfl) d_D_move_131 ⟨Nat.zero_le _, Nat.zero_le _⟩ (fun H locs hP hD hS => ?_)
        cases hf
        exact hret _ _ _ _ hP hD hS d_D_move_134
      · have hf := ite_f c_1 hf
        refine lv_aload_n hx hb d_D_move_84 rfl (lv_at hl 0 rfl) ?_
        refine lv_iload_n hx hb d_D_move_85 rfl (lv_at hl 2 rfl) ?_
        refine lv_iload hx hb d_D_move_86 (lv_at hl 3 rfl) ?_
        refine lv_iadd hx hb d_D_move_88 ?_
        refine lv_bipush (v := 8) hx hb d_D_move_89 (by decide) ?_
        refine lv_isub hx hb d_D_move_91 ?_
        refine lv_i2l hx hb d_D_move_92 rfl ?_
        refine lv_bipush (v := 8) hx hb d_D_move_93 (by decide) ?_
        refine lv_aload_n hx hb d_D_move_95 rfl (lv_at hl 0 rfl) ?_
        refine lv_iload_n hx hb d_D_move_96 rfl (lv_at hl 1 rfl) ?_
        refine lv_iload hx hb d_D_move_97 (lv_at hl 3 rfl) ?_
        refine lv_iadd hx hb d_D_move_99 ?_
        refine lv_bipush (v := 8) hx hb d_D_move_100 (by decide) ?_
        refine lv_isub hx hb d_D_move_102 ?_
        refine lv_i2l hx hb d_D_move_103 rfl ?_
        refine lv_bipush (v := 8) hx hb d_D_move_104 (by decide) ?_
        obtain ⟨r_6, hc_7, hf⟩ := bd1_s hf
        refine ucVl (As := [.long (Int32.toInt64 ((x1 + x4) - ((8 : Int32)))), .int ((8 : Int32))]) (rest := [.int ((8 : Int32)), .long (Int32.toInt64 ((x2 + x4) - ((8 : Int32)))), .ref (h 1)]) ⟨hx, hb, hml, hown, htb⟩ hK hP hD hS hA (fun hs => c_D_number hc_7) (cwV 2 htb (gV tw_263 tw_264 tw_265 tw_69 tw_266) rfl rfl rfl (by decide +kernel) ⟨Nat.le_of_ble_eq_true rfl, Nat.le_of_ble_eq_true rfl⟩) 1 0 rfl rfl rfl rfl rfl hl.1 (Nat.le_of_ble_eq_true rfl) d_D_move_106 ⟨Nat.zero_le _, Nat.zero_le _⟩ (fun H locs hP hD hS => ?_)
        obtain ⟨wd_8, hc_9, hf⟩ := bd1_s hf
        refine ucVv (As := [.long (Int32.toInt64 ((x2 + x4) - ((8 : Int32)))), .int ((8 : Int32)), .long r_6]) (rest := []) ⟨hx, hb, hml, hown, htb⟩ hK hP hD hS hA (fun hs => c_D_set hc_9) (cwV 3 htb (gV tw_254 tw_232 tw_233 tw_69 tw_234) rfl rfl rfl (by decide +kernel) ⟨Nat.le_of_ble_eq_true rfl, Nat.le_of_ble_eq_true rfl⟩) 1 0 rfl rfl rfl rfl rfl hl.1 (Nat.le_of_ble_eq_true rfl) d_D_move_109 ⟨Nat.zero_le _, Nat.zero_le _⟩ (fun H locs hP hD hS => ?_)
        obtain ⟨v4_10, ev4_10, hf⟩ := lt1_s hf
        refine lv_iinc (v := v4_10) (lv' := [(4, .int v4_10), (0, .ref (h 1)), (1, .int x1), (2, .int x2)]) hx hb d_D_move_112 hl (k := 3) rfl (by rw [← ev4_10]; rfl) (by decide) rfl (fun ls hl => ?_)
        refine lv_goto (tgt := 77) hx hb d_D_move_115 (by decide) ?_
        exact ih_77 wd_8 x1 x2 v4_10 _ _ _ hf hP hD hS (lv_sub hl [1, 2, 3, 0] rfl)
  have hj_8 : ∀ (k_8 : Nat) (wd : Nat → Int64) (x1 : Int32) (x2 : Int32) (x3 : Int32) (x4 : Int32) (H : Heap) (locs : List Loc) (ls : Array Slot), f_D_move_8 N NW sz k_8 wd x1 x2 x3 x4 = some (wd') → va_P (dC, dI) clAll (wC h cI cL NW bk sz wd mb gB gI gN iN dr es of od pl hd tk kn li pa ins cm fd hr) H → va_D A (wC h cI cL NW bk sz wd mb gB gI gN iN dr es of od pl hd tk kn li pa ins cm fd hr) → va_S A s.heap H locs → lv_has ls 5 [(0, .ref (h 1)), (1, .int x1), (2, .int x2), (3, .int x3), (4, .int x4)] → W p l e (headSpec ws_D_move { frames := 1, cells := 0, slots := 0, locals := 31 }).room s m args below meth c H locs 0 0 Q (F0 m 8 ls []) := by
    intro k_8
    induction k_8 with
    | zero => intro _ _ _ _ _ _ _ _ hf; exact absurd hf (by simp [f_D_move_8])
    | succ k_8 ih_8 =>
      intro wd x1 x2 x3 x4 H locs ls hf hP hD hS hl
      rw [f_D_move_8] at hf
      refine lv_iload hx hb d_D_move_8 (lv_at hl 4 rfl) ?_
      refine lv_iload_n hx hb d_D_move_10 rfl (lv_at hl 3 rfl) ?_
      refine lv_bipush (v := 8) hx hb d_D_move_11 (by decide) ?_
      refine lv_isub hx hb d_D_move_13 ?_
      refine lv_icmp_gt (tgt := 45) hx hb d_D_move_14 (by decide) (fun c_1 => ?_) (fun c_1 => ?_)
      · have hf := ite_t c_1 hf
        refine lv_aload_n hx hb d_D_move_45 rfl (lv_at hl 0 rfl) ?_
        refine lv_iload_n hx hb d_D_move_46 rfl (lv_at hl 2 rfl) ?_
        refine lv_iload hx hb d_D_move_47 (lv_at hl 4 rfl) ?_
        refine lv_iadd hx hb d_D_move_49 ?_
        refine lv_i2l hx hb d_D_move_50 rfl ?_
        refine lv_iload_n hx hb d_D_move_51 rfl (lv_at hl 3 rfl) ?_
        refine lv_iload hx hb d_D_move_52 (lv_at hl 4 rfl) ?_
        refine lv_isub hx hb d_D_move_54 ?_
        refine lv_aload_n hx hb d_D_move_55 rfl (lv_at hl 0 rfl) ?_
        refine lv_iload_n hx hb d_D_move_56 rfl (lv_at hl 1 rfl) ?_
        refine lv_iload hx hb d_D_move_57 (lv_at hl 4 rfl) ?_
        refine lv_iadd hx hb d_D_move_59 ?_
        refine lv_i2l hx hb d_D_move_60 rfl ?_
        refine lv_iload_n hx hb d_D_move_61 rfl (lv_at hl 3 rfl) ?_
        refine lv_iload hx hb d_D_move_62 (lv_at hl 4 rfl) ?_
        refine lv_isub hx hb d_D_move_64 ?_
        obtain ⟨r_2, hc_3, hf⟩ := bd1_s hf
        refine ucVl (As := [.long (Int32.toInt64 (x1 + x4)), .int (x3 - x4)]) (rest := [.int (x3 - x4), .long (Int32.toInt64 (x2 + x4)), .ref (h 1)]) ⟨hx, hb, hml, hown, htb⟩ hK hP hD hS hA (fun hs => c_D_number hc_3) (cwV 2 htb (gV tw_263 tw_264 tw_265 tw_69 tw_266) rfl rfl rfl (by decide +kernel) ⟨Nat.le_of_ble_eq_true rfl, Nat.le_of_ble_eq_true rfl⟩) 1 0 rfl rfl rfl rfl rfl hl.1 (Nat.le_of_ble_eq_true rfl) d_D_move_65 ⟨Nat.zero_le _, Nat.zero_le _⟩ (fun H locs hP hD hS => ?_)
        obtain ⟨wd_4, hc_5, hf⟩ := bd1_s hf
        refine ucVv (As := [.long (Int32.toInt64 (x2 + x4)), .int (x3 - x4), .long r_2]) (rest := []) ⟨hx, hb, hml, hown, htb⟩ hK hP hD hS hA (fun hs => c_D_set hc_5) (cwV 3 htb (gV tw_254 tw_232 tw_233 tw_69 tw_234) rfl rfl rfl (by decide +kernel) ⟨Nat.le_of_ble_eq_true rfl, Nat.le_of_ble_eq_true rfl⟩) 1 0 rfl rfl rfl rfl rfl hl.1 (Nat.le_of_ble_eq_true rfl) d_D_move_68 ⟨Nat.zero_le _, Nat.zero_le _⟩ (fun H locs hP hD hS => ?_)
        refine lv_goto (tgt := 134) hx hb d_D_move_71 (by decide) ?_
        cases hf
        exact hret _ _ _ _ hP hD hS d_D_move_134
      · have hf := ite_f c_1 hf
        refine lv_aload_n hx hb d_D_move_17 rfl (lv_at hl 0 rfl) ?_
        refine lv_iload_n hx hb d_D_move_18 rfl (lv_at hl 2 rfl) ?_
        refine lv_iload hx hb d_D_move_19 (lv_at hl 4 rfl) ?_
        refine lv_iadd hx hb d_D_move_21 ?_
        refine lv_i2l hx hb d_D_move_22 rfl ?_
        refine lv_bipush (v := 8) hx hb d_D_move_23 (by decide) ?_
        refine lv_aload_n hx hb d_D_move_25 rfl (lv_at hl 0 rfl) ?_
        refine lv_iload_n hx hb d_D_move_26 rfl (lv_at hl 1 rfl) ?_
        refine lv_iload hx hb d_D_move_27 (lv_at hl 4 rfl) ?_
        refine lv_iadd hx hb d_D_move_29 ?_
        refine lv_i2l hx hb d_D_move_30 rfl ?_
        refine lv_bipush (v := 8) hx hb d_D_move_31 (by decide) ?_
        obtain ⟨r_6, hc_7, hf⟩ := bd1_s hf
        refine ucVl (As := [.long (Int32.toInt64 (x1 + x4)), .int ((8 : Int32))]) (rest := [.int ((8 : Int32)), .long (Int32.toInt64 (x2 + x4)), .ref (h 1)]) ⟨hx, hb, hml, hown, htb⟩ hK hP hD hS hA (fun hs => c_D_number hc_7) (cwV 2 htb (gV tw_263 tw_264 tw_265 tw_69 tw_266) rfl rfl rfl (by decide +kernel) ⟨Nat.le_of_ble_eq_true rfl, Nat.le_of_ble_eq_true rfl⟩) 1 0 rfl rfl rfl rfl rfl hl.1 (Nat.le_of_ble_eq_true rfl) d_D_move_33 ⟨Nat.zero_le _, Nat.zero_le _⟩ (fun H locs hP hD hS => ?_)
        obtain ⟨wd_8, hc_9, hf⟩ := bd1_s hf
        refine ucVv (As := [.long (Int32.toInt64 (x2 + x4)), .int ((8 : Int32)), .long r_6]) (rest := []) ⟨hx, hb, hml, hown, htb⟩ hK hP hD hS hA (fun hs => c_D_set hc_9) (cwV 3 htb (gV tw_254 tw_232 tw_233 tw_69 tw_234) rfl rfl rfl (by decide +kernel) ⟨Nat.le_of_ble_eq_true rfl, Nat.le_of_ble_eq_true rfl⟩) 1 0 rfl rfl rfl rfl rfl hl.1 (Nat.le_of_ble_eq_true rfl) d_D_move_36 ⟨Nat.zero_le _, Nat.zero_le _⟩ (fun H locs hP hD hS => ?_)
        obtain ⟨v4_10, ev4_10, hf⟩ := lt1_s hf
        refine lv_iinc (v := v4_10) (lv' := [(4, .int v4_10), (0, .ref (h 1)), (1, .int x1), (2, .int x2), (3, .int x3)]) hx hb d_D_move_39 hl (k := 4) rfl (by rw [← ev4_10]; rfl) (by decide) rfl (fun ls hl => ?_)
        refine lv_goto (tgt := 8) hx hb d_D_move_42 (by decide) ?_
        exact ih_8 wd_8 x1 x2 x3 v4_10 _ _ _ hf hP hD hS (lv_sub hl [1, 2, 3, 4, 0] rfl)
  unfold f_D_move at hf
  refine lv_iload_n hx hb d_D_move_0 rfl (lv_at hl 2 rfl) ?_
  refine lv_iload_n hx hb d_D_move_1 rfl (lv_at hl 1 rfl) ?_
  refine lv_icmp_gt (tgt := 74) hx hb d_D_move_2 (by decide) (fun c_1 => ?_) (fun c_1 => ?_)
  · have hf := ite_t c_1 hf
    refine lv_iload_n hx hb d_D_move_74 rfl (lv_at hl 3 rfl) ?_
    refine lv_istore (lv' := [(4, .int a3), (0, .ref (h 1)), (1, .int a1), (2, .int a2), (3, .int a3)]) hx hb d_D_move_75 hl (by decide) rfl (fun ls hl => ?_)
    exact hj_77 N wd a1 a2 a3 _ _ _ hf hP hD hS (lv_sub hl [1, 2, 3, 0] rfl)
  · have hf := ite_f c_1 hf
    refine lv_iconst (v := 0) hx hb d_D_move_5 (by decide) ?_
    refine lv_istore (lv' := [(4, .int ((0 : Int32))), (0, .ref (h 1)), (1, .int a1), (2, .int a2), (3, .int a3)]) hx hb d_D_move_6 hl (by decide) rfl (fun ls hl => ?_)
    exact hj_8 N wd a1 a2 a3 ((0 : Int32)) _ _ _ hf hP hD hS (lv_sub hl [1, 2, 3, 4, 0] rfl)
set_option maxHeartbeats 4000000 in
set_option maxRecDepth 100000 in
theorem c_D_blocks {l : Launch} {dC : Nat → ClassId} {dI : Nat → Nat → Nat} {h : Nat → Nat} {cI : ClassId} {cL : ClassId} {NW : Nat} {bk : Int32} {sz : Int32} {wd : Nat → Int64} {mb : Nat → Int32} {gB : Int32} {gI : Int32} {gN : Int32} {iN : Int32} {dr : Int32} {es : Int64} {of : Int64} {od : Int32} {pl : Int64} {hd : Int64} {tk : Nat → Int32} {kn : Nat → Int32} {li : Nat → Int32} {pa : Nat → Int32} {ins : Nat → Int32} {cm : Int32} {fd : Int32} {hr : Int32} {hs : Nat} {r : Int32} (hf : f_D_blocks NW bk = some (r)) : Met l y_D_blocks ws_D_blocks { frames := 0, cells := 0, slots := 0, locals := 0 } (PcU (dC, dI) clAll [(cI, .int), (cL, .long)] (wC h cI cL NW bk sz wd mb gB gI gN iN dr es of od pl hd tk kn li pa ins cm fd hr) hs [.ref (h 1)]) (QUi (dC, dI) clAll [(cI, .int), (cL, .long)] (wC h cI cL NW bk sz wd mb gB gI gN iN dr es of od pl hd tk kn li pa ins cm fd hr) (wC h cI cL NW bk sz wd mb gB gI gN iN dr es of od pl hd tk kn li pa ins cm fd hr) hs r) 0 0 (va_A (wC h cI cL NW bk sz wd mb gB gI gN iN dr es of od pl hd tk kn li pa ins cm fd hr) hs) := by
  refine mUi (cc := b_D_blocks) (maxL := 1) (by decide) rfl (Nat.le_of_ble_eq_true rfl) ?_
  intro p e s m args below meth c Q hx hb hml hts hown A hA hK hP hD hS hret ls hl
  have htb : ∀ w ∈ TB, w.before args s = true := fun w h => hts w (List.mem_cons_of_mem _ h)
  have hl : lv_has ls 1 [(0, .ref (h 1))] := hl
  unfold f_D_blocks at hf
  refine lv_aload_n hx hb d_D_blocks_0 rfl (lv_at hl 0 rfl) ?_
  refine va_get (D := (dC, dI)) (ci := 0) (v := .int bk) (C := R_D) (T := T_D) (N := 3) hx hb htb in_D hown hK hP 1 rfl rfl 0 (by decide) (htb _ tw_102) (fun _ h9 => h9) rfl d_D_blocks_1 ?_
  cases hf
  exact hret _ _ _ _ hP hD hS d_D_blocks_4
set_option maxHeartbeats 4000000 in
set_option maxRecDepth 100000 in
theorem c_D_bit {l : Launch} {dC : Nat → ClassId} {dI : Nat → Nat → Nat} {h : Nat → Nat} {cI : ClassId} {cL : ClassId} {NW : Nat} {bk : Int32} {sz : Int32} {wd : Nat → Int64} {mb : Nat → Int32} {gB : Int32} {gI : Int32} {gN : Int32} {iN : Int32} {dr : Int32} {es : Int64} {of : Int64} {od : Int32} {pl : Int64} {hd : Int64} {tk : Nat → Int32} {kn : Nat → Int32} {li : Nat → Int32} {pa : Nat → Int32} {ins : Nat → Int32} {cm : Int32} {fd : Int32} {hr : Int32} {hs : Nat} {a1 : Int64} {a3 : Int32} {r : Int32} (hf : f_D_bit NW sz wd a1 a3 = some (r)) : Met l y_D_bit ws_D_bit { frames := 1, cells := 0, slots := 0, locals := 27 } (PcU (dC, dI) clAll [(cI, .int), (cL, .long)] (wC h cI cL NW bk sz wd mb gB gI gN iN dr es of od pl hd tk kn li pa ins cm fd hr) hs [.ref (h 1), .long a1, .int a3]) (QUi (dC, dI) clAll [(cI, .int), (cL, .long)] (wC h cI cL NW bk sz wd mb gB gI gN iN dr es of od pl hd tk kn li pa ins cm fd hr) (wC h cI cL NW bk sz wd mb gB gI gN iN dr es of od pl hd tk kn li pa ins cm fd hr) hs r) 0 0 (va_A (wC h cI cL NW bk sz wd mb gB gI gN iN dr es of od pl hd tk kn li pa ins cm fd hr) hs) := by
  refine mUz (cc := b_D_bit) (maxL := 4) (by decide) rfl (Nat.le_of_ble_eq_true rfl) ?_
  intro p e s m args below meth c Q hx hb hml hts hown A hA hK hP hD hS hret ls hl
  have htb : ∀ w ∈ TB, w.before args s = true := fun w h => hts w (List.mem_cons_of_mem _ h)
  have hl : lv_has ls 4 [(0, .ref (h 1)), (1, .long a1), (3, .int a3)] := hl
  unfold f_D_bit at hf
  refine lv_aload_n hx hb d_D_bit_0 rfl (lv_at hl 0 rfl) ?_
  refine lv_lload_n hx hb d_D_bit_1 rfl (lv_at hl 1 rfl) ?_
  refine lv_iload_n hx hb d_D_bit_2 rfl (lv_at hl 2 rfl) ?_
  refine lv_bipush (v := 8) hx hb d_D_bit_3 (by decide) ?_
  refine lv_idiv hx hb d_D_bit_5 (by decide) ?_
  refine lv_i2l hx hb d_D_bit_6 rfl ?_
  refine lv_ladd hx hb d_D_bit_7 ?_
  refine lv_iconst (v := 1) hx hb d_D_bit_8 (by decide) ?_
  obtain ⟨r_1, hc_2, hf⟩ := bd1_s hf
  refine ucVl (As := [.long (a1 + (Int32.toInt64 (a3 / ((8 : Int32))))), .int ((1 : Int32))]) (rest := []) ⟨hx, hb, hml, hown, htb⟩ hK hP hD hS hA (fun hs => c_D_number hc_2) (cwV 2 htb (gV tw_263 tw_264 tw_265 tw_69 tw_266) rfl rfl rfl (by decide +kernel) ⟨Nat.le_of_ble_eq_true rfl, Nat.le_of_ble_eq_true rfl⟩) 1 0 rfl rfl rfl rfl rfl hl.1 (Nat.le_of_ble_eq_true rfl) d_D_bit_9 ⟨Nat.zero_le _, Nat.zero_le _⟩ (fun H locs hP hD hS => ?_)
  refine lv_iload_n hx hb d_D_bit_12 rfl (lv_at hl 2 rfl) ?_
  refine lv_bipush (v := 8) hx hb d_D_bit_13 (by decide) ?_
  refine lv_irem hx hb d_D_bit_15 (by decide) ?_
  refine lv_lshr hx hb d_D_bit_16 rfl ?_
  refine lv_lconst (v := 1) hx hb d_D_bit_17 (by decide) ?_
  refine lv_land hx hb d_D_bit_18 ?_
  refine lv_lconst (v := 0) hx hb d_D_bit_19 (by decide) ?_
  refine lc_eq (tgt := 28) hx hb d_D_bit_20 d_D_bit_21 (by decide) (fun c_3 => ?_) (fun c_3 => ?_)
  · have hf := ite_t c_3 hf
    refine lv_iconst (v := 0) hx hb d_D_bit_28 (by decide) ?_
    cases hf
    exact hret _ _ _ _ (Or.inl rfl) hP hD hS d_D_bit_29
  · have hf := ite_f c_3 hf
    refine lv_iconst (v := 1) hx hb d_D_bit_24 (by decide) ?_
    refine lv_goto (tgt := 29) hx hb d_D_bit_25 (by decide) ?_
    cases hf
    exact hret _ _ _ _ (Or.inr rfl) hP hD hS d_D_bit_29
set_option maxHeartbeats 4000000 in
set_option maxRecDepth 100000 in
theorem c_D_onesFrom {l : Launch} {dC : Nat → ClassId} {dI : Nat → Nat → Nat} {N : Nat} {h : Nat → Nat} {cI : ClassId} {cL : ClassId} {NW : Nat} {bk : Int32} {sz : Int32} {wd : Nat → Int64} {mb : Nat → Int32} {gB : Int32} {gI : Int32} {gN : Int32} {iN : Int32} {dr : Int32} {es : Int64} {of : Int64} {od : Int32} {pl : Int64} {hd : Int64} {tk : Nat → Int32} {kn : Nat → Int32} {li : Nat → Int32} {pa : Nat → Int32} {ins : Nat → Int32} {cm : Int32} {fd : Int32} {hr : Int32} {hs : Nat} {a1 : Int64} {a3 : Int32} {r : Int32} (hf : f_D_onesFrom N NW sz wd a1 a3 = some (r)) : Met l y_D_onesFrom ws_D_onesFrom { frames := 1, cells := 0, slots := 0, locals := 27 } (PcU (dC, dI) clAll [(cI, .int), (cL, .long)] (wC h cI cL NW bk sz wd mb gB gI gN iN dr es of od pl hd tk kn li pa ins cm fd hr) hs [.ref (h 1), .long a1, .int a3]) (QUi (dC, dI) clAll [(cI, .int), (cL, .long)] (wC h cI cL NW bk sz wd mb gB gI gN iN dr es of od pl hd tk kn li pa ins cm fd hr) (wC h cI cL NW bk sz wd mb gB gI gN iN dr es of od pl hd tk kn li pa ins cm fd hr) hs r) 0 0 (va_A (wC h cI cL NW bk sz wd mb gB gI gN iN dr es of od pl hd tk kn li pa ins cm fd hr) hs) := by
  refine mUz (cc := b_D_onesFrom) (maxL := 5) (by decide) rfl (Nat.le_of_ble_eq_true rfl) ?_
  intro p e s m args below meth c Q hx hb hml hts hown A hA hK hP hD hS hret ls hl
  have htb : ∀ w ∈ TB, w.before args s = true := fun w h => hts w (List.mem_cons_of_mem _ h)
  have hl : lv_has ls 5 [(0, .ref (h 1)), (1, .long a1), (3, .int a3)] := hl
  have hj_53 : ∀ (k_53 : Nat) (x1 : Int64) (x4 : Int32) (H : Heap) (locs : List Loc) (ls : Array Slot), f_D_onesFrom_53 N NW sz wd k_53 x1 x4 = some (r) → va_P (dC, dI) clAll (wC h cI cL NW bk sz wd mb gB gI gN iN dr es of od pl hd tk kn li pa ins cm fd hr) H → va_D A (wC h cI cL NW bk sz wd mb gB gI gN iN dr es of od pl hd tk kn li pa ins cm fd hr) → va_S A s.heap H locs → lv_has ls 5 [(0, .ref (h 1)), (1, .long x1), (4, .int x4)] → W p l e (headSpec ws_D_onesFrom { frames := 1, cells := 0, slots := 0, locals := 27 }).room s m args below meth c H locs 0 0 Q (F0 m 53 ls []) := by
    intro k_53
    induction k_53 with
    | zero => intro _ _ _ _ _ hf; exact absurd hf (by simp [f_D_onesFrom_53])
    | succ k_53 ih_53 =>
      intro x1 x4 H locs ls hf hP hD hS hl
      rw [f_D_onesFrom_53] at hf
      refine lv_iload hx hb d_D_onesFrom_53 (lv_at hl 2 rfl) ?_
      refine lv_sipush (v := 8192) hx hb d_D_onesFrom_55 (by decide) ?_
      refine lv_icmp_ge (tgt := 90) hx hb d_D_onesFrom_58 (by decide) (fun c_1 => ?_) (fun c_1 => ?_)
      · have hf := ite_t c_1 hf
        refine lv_iconst (v := 1) hx hb d_D_onesFrom_90 (by decide) ?_
        cases hf
        exact hret _ _ _ _ (Or.inr rfl) hP hD hS d_D_onesFrom_91
      · have hf := ite_f c_1 hf
        refine lv_aload_n hx hb d_D_onesFrom_61 rfl (lv_at hl 0 rfl) ?_
        refine lv_lload_n hx hb d_D_onesFrom_62 rfl (lv_at hl 1 rfl) ?_
        refine lv_iload hx hb d_D_onesFrom_63 (lv_at hl 2 rfl) ?_
        refine lv_bipush (v := 8) hx hb d_D_onesFrom_65 (by decide) ?_
        refine lv_idiv hx hb d_D_onesFrom_67 (by decide) ?_
        refine lv_i2l hx hb d_D_onesFrom_68 rfl ?_
        refine lv_ladd hx hb d_D_onesFrom_69 ?_
        refine lv_bipush (v := 8) hx hb d_D_onesFrom_70 (by decide) ?_
        obtain ⟨r_2, hc_3, hf⟩ := bd1_s hf
        refine ucVl (As := [.long (x1 + (Int32.toInt64 (x4 / ((8 : Int32))))), .int ((8 : Int32))]) (rest := []) ⟨hx, hb, hml, hown, htb⟩ hK hP hD hS hA (fun hs => c_D_number hc_3) (cwV 2 htb (gV tw_263 tw_264 tw_265 tw_69 tw_266) rfl rfl rfl (by decide +kernel) ⟨Nat.le_of_ble_eq_true rfl, Nat.le_of_ble_eq_true rfl⟩) 1 0 rfl rfl rfl rfl rfl hl.1 (Nat.le_of_ble_eq_true rfl) d_D_onesFrom_72 ⟨Nat.zero_le _, Nat.zero_le _⟩ (fun H locs hP hD hS => ?_)
        refine lv_ldc2 (v := -1) hx hb hown (htb _ tw_236) d_D_onesFrom_75 ?_
        refine lc_eq (tgt := 84) hx hb d_D_onesFrom_78 d_D_onesFrom_79 (by decide) (fun c_4 => ?_) (fun c_4 => ?_)
        · have hf := ite_t c_4 hf
          obtain ⟨v4_5, ev4_5, hf⟩ := lt1_s hf
          refine lv_iinc (v := v4_5) (lv' := [(4, .int v4_5), (0, .ref (h 1)), (1, .long x1)]) hx hb d_D_onesFrom_84 hl (k := 2) rfl (by rw [← ev4_5]; rfl) (by decide) rfl (fun ls hl => ?_)
          refine lv_goto (tgt := 53) hx hb d_D_onesFrom_87 (by decide) ?_
          exact ih_53 x1 v4_5 _ _ _ hf hP hD hS (lv_sub hl [1, 2, 0] rfl)
        · have hf := ite_f c_4 hf
          refine lv_iconst (v := 0) hx hb d_D_onesFrom_82 (by decide) ?_
          cases hf
          exact hret _ _ _ _ (Or.inl rfl) hP hD hS d_D_onesFrom_83
  have hj_3 : ∀ (k_3 : Nat) (x1 : Int64) (x4 : Int32) (H : Heap) (locs : List Loc) (ls : Array Slot), f_D_onesFrom_3 N NW sz wd k_3 x1 x4 = some (r) → va_P (dC, dI) clAll (wC h cI cL NW bk sz wd mb gB gI gN iN dr es of od pl hd tk kn li pa ins cm fd hr) H → va_D A (wC h cI cL NW bk sz wd mb gB gI gN iN dr es of od pl hd tk kn li pa ins cm fd hr) → va_S A s.heap H locs → lv_has ls 5 [(0, .ref (h 1)), (1, .long x1), (4, .int x4)] → W p l e (headSpec ws_D_onesFrom { frames := 1, cells := 0, slots := 0, locals := 27 }).room s m args below meth c H locs 0 0 Q (F0 m 3 ls []) := by
    intro k_3
    induction k_3 with
    | zero => intro _ _ _ _ _ hf; exact absurd hf (by simp [f_D_onesFrom_3])
    | succ k_3 ih_3 =>
      intro x1 x4 H locs ls hf hP hD hS hl
      rw [f_D_onesFrom_3] at hf
      refine lv_iload hx hb d_D_onesFrom_3 (lv_at hl 2 rfl) ?_
      refine lv_sipush (v := 8192) hx hb d_D_onesFrom_5 (by decide) ?_
      refine lv_icmp_ge (tgt := 53) hx hb d_D_onesFrom_8 (by decide) (fun c_1 => ?_) (fun c_1 => ?_)
      · have hf := ite_t c_1 hf
        exact hj_53 N x1 x4 _ _ _ hf hP hD hS (lv_sub hl [0, 1, 2] rfl)
      · have hf := ite_f c_1 hf
        refine lv_iload hx hb d_D_onesFrom_11 (lv_at hl 2 rfl) ?_
        refine lv_bipush (v := 64) hx hb d_D_onesFrom_13 (by decide) ?_
        refine lv_irem hx hb d_D_onesFrom_15 (by decide) ?_
        refine lv_if_eq (tgt := 53) hx hb d_D_onesFrom_16 (by decide) (fun c_2 => ?_) (fun c_2 => ?_)
        · have hf := ite_t c_2 hf
          exact hj_53 N x1 x4 _ _ _ hf hP hD hS (lv_sub hl [0, 1, 2] rfl)
        · have hf := ite_f c_2 hf
          refine lv_aload_n hx hb d_D_onesFrom_19 rfl (lv_at hl 0 rfl) ?_
          refine lv_lload_n hx hb d_D_onesFrom_20 rfl (lv_at hl 1 rfl) ?_
          refine lv_iload hx hb d_D_onesFrom_21 (lv_at hl 2 rfl) ?_
          refine lv_bipush (v := 8) hx hb d_D_onesFrom_23 (by decide) ?_
          refine lv_idiv hx hb d_D_onesFrom_25 (by decide) ?_
          refine lv_i2l hx hb d_D_onesFrom_26 rfl ?_
          refine lv_ladd hx hb d_D_onesFrom_27 ?_
          refine lv_iconst (v := 1) hx hb d_D_onesFrom_28 (by decide) ?_
          obtain ⟨r_3, hc_4, hf⟩ := bd1_s hf
          refine ucVl (As := [.long (x1 + (Int32.toInt64 (x4 / ((8 : Int32))))), .int ((1 : Int32))]) (rest := []) ⟨hx, hb, hml, hown, htb⟩ hK hP hD hS hA (fun hs => c_D_number hc_4) (cwV 2 htb (gV tw_263 tw_264 tw_265 tw_69 tw_266) rfl rfl rfl (by decide +kernel) ⟨Nat.le_of_ble_eq_true rfl, Nat.le_of_ble_eq_true rfl⟩) 1 0 rfl rfl rfl rfl rfl hl.1 (Nat.le_of_ble_eq_true rfl) d_D_onesFrom_29 ⟨Nat.zero_le _, Nat.zero_le _⟩ (fun H locs hP hD hS => ?_)
          refine lv_iload hx hb d_D_onesFrom_32 (lv_at hl 2 rfl) ?_
          refine lv_bipush (v := 8) hx hb d_D_onesFrom_34 (by decide) ?_
          refine lv_irem hx hb d_D_onesFrom_36 (by decide) ?_
          refine lv_lshr hx hb d_D_onesFrom_37 rfl ?_
          refine lv_lconst (v := 1) hx hb d_D_onesFrom_38 (by decide) ?_
          refine lv_land hx hb d_D_onesFrom_39 ?_
          refine lv_lconst (v := 0) hx hb d_D_onesFrom_40 (by decide) ?_
          refine lc_ne (tgt := 47) hx hb d_D_onesFrom_41 d_D_onesFrom_42 (by decide) (fun c_5 => ?_) (fun c_5 => ?_)
          · have hf := ite_f c_5 hf
            obtain ⟨v4_6, ev4_6, hf⟩ := lt1_s hf
            refine lv_iinc (v := v4_6) (lv' := [(4, .int v4_6), (0, .ref (h 1)), (1, .long x1)]) hx hb d_D_onesFrom_47 hl (k := 2) rfl (by rw [← ev4_6]; rfl) (by decide) rfl (fun ls hl => ?_)
            refine lv_goto (tgt := 3) hx hb d_D_onesFrom_50 (by decide) ?_
            exact ih_3 x1 v4_6 _ _ _ hf hP hD hS (lv_sub hl [1, 2, 0] rfl)
          · have hf := ite_t c_5 hf
            refine lv_iconst (v := 0) hx hb d_D_onesFrom_45 (by decide) ?_
            cases hf
            exact hret _ _ _ _ (Or.inl rfl) hP hD hS d_D_onesFrom_46
  unfold f_D_onesFrom at hf
  refine lv_iload_n hx hb d_D_onesFrom_0 rfl (lv_at hl 2 rfl) ?_
  refine lv_istore (lv' := [(4, .int a3), (0, .ref (h 1)), (1, .long a1), (3, .int a3)]) hx hb d_D_onesFrom_1 hl (by decide) rfl (fun ls hl => ?_)
  exact hj_3 N a1 a3 _ _ _ hf hP hD hS (lv_sub hl [1, 2, 0] rfl)
end
section
theorem d_L_readGroups_0 : decode b_L_readGroups 0 = .ok (.aload_n 0, 1) := by decide +kernel
theorem d_L_readGroups_1 : decode b_L_readGroups 1 = .ok (.getfield 15, 3) := by decide +kernel
theorem d_L_readGroups_4 : decode b_L_readGroups 4 = .ok (.ldc2_w 19, 3) := by decide +kernel
theorem d_L_readGroups_7 : decode b_L_readGroups 7 = .ok (.iconst 4, 1) := by decide +kernel
theorem d_L_readGroups_8 : decode b_L_readGroups 8 = .ok (.invokevirtual 21, 3) := by decide +kernel
theorem d_L_readGroups_11 : decode b_L_readGroups 11 = .ok (.lstore_n 1, 1) := by decide +kernel
theorem d_L_readGroups_12 : decode b_L_readGroups 12 = .ok (.aload_n 0, 1) := by decide +kernel
theorem d_L_readGroups_13 : decode b_L_readGroups 13 = .ok (.getfield 15, 3) := by decide +kernel
theorem d_L_readGroups_16 : decode b_L_readGroups 16 = .ok (.ldc2_w 27, 3) := by decide +kernel
theorem d_L_readGroups_19 : decode b_L_readGroups 19 = .ok (.iconst 4, 1) := by decide +kernel
theorem d_L_readGroups_20 : decode b_L_readGroups 20 = .ok (.invokevirtual 21, 3) := by decide +kernel
theorem d_L_readGroups_23 : decode b_L_readGroups 23 = .ok (.lstore_n 3, 1) := by decide +kernel
theorem d_L_readGroups_24 : decode b_L_readGroups 24 = .ok (.lload_n 1, 1) := by decide +kernel
theorem d_L_readGroups_25 : decode b_L_readGroups 25 = .ok (.ldc2_w 29, 3) := by decide +kernel
theorem d_L_readGroups_28 : decode b_L_readGroups 28 = .ok (.lcmp, 1) := by decide +kernel
theorem d_L_readGroups_29 : decode b_L_readGroups 29 = .ok (.ifCond .eq 21, 3) := by decide +kernel
theorem d_L_readGroups_32 : decode b_L_readGroups 32 = .ok (.lload_n 1, 1) := by decide +kernel
theorem d_L_readGroups_33 : decode b_L_readGroups 33 = .ok (.ldc2_w 31, 3) := by decide +kernel
theorem d_L_readGroups_36 : decode b_L_readGroups 36 = .ok (.lcmp, 1) := by decide +kernel
theorem d_L_readGroups_37 : decode b_L_readGroups 37 = .ok (.ifCond .eq 13, 3) := by decide +kernel
theorem d_L_readGroups_40 : decode b_L_readGroups 40 = .ok (.lload_n 1, 1) := by decide +kernel
theorem d_L_readGroups_41 : decode b_L_readGroups 41 = .ok (.ldc2_w 33, 3) := by decide +kernel
theorem d_L_readGroups_44 : decode b_L_readGroups 44 = .ok (.lcmp, 1) := by decide +kernel
theorem d_L_readGroups_45 : decode b_L_readGroups 45 = .ok (.ifCond .eq 5, 3) := by decide +kernel
theorem d_L_readGroups_48 : decode b_L_readGroups 48 = .ok (.iconst 0, 1) := by decide +kernel
theorem d_L_readGroups_49 : decode b_L_readGroups 49 = .ok (.ireturn, 1) := by decide +kernel
theorem d_L_readGroups_50 : decode b_L_readGroups 50 = .ok (.lload_n 3, 1) := by decide +kernel
theorem d_L_readGroups_51 : decode b_L_readGroups 51 = .ok (.ldc2_w 35, 3) := by decide +kernel
theorem d_L_readGroups_54 : decode b_L_readGroups 54 = .ok (.lcmp, 1) := by decide +kernel
theorem d_L_readGroups_55 : decode b_L_readGroups 55 = .ok (.ifCond .lt 21, 3) := by decide +kernel
theorem d_L_readGroups_58 : decode b_L_readGroups 58 = .ok (.lload_n 3, 1) := by decide +kernel
theorem d_L_readGroups_59 : decode b_L_readGroups 59 = .ok (.ldc2_w 37, 3) := by decide +kernel
theorem d_L_readGroups_62 : decode b_L_readGroups 62 = .ok (.lcmp, 1) := by decide +kernel
theorem d_L_readGroups_63 : decode b_L_readGroups 63 = .ok (.ifCond .gt 13, 3) := by decide +kernel
theorem d_L_readGroups_66 : decode b_L_readGroups 66 = .ok (.lload_n 3, 1) := by decide +kernel
theorem d_L_readGroups_67 : decode b_L_readGroups 67 = .ok (.ldc2_w 35, 3) := by decide +kernel
theorem d_L_readGroups_70 : decode b_L_readGroups 70 = .ok (.lrem, 1) := by decide +kernel
theorem d_L_readGroups_71 : decode b_L_readGroups 71 = .ok (.lconst 0, 1) := by decide +kernel
theorem d_L_readGroups_72 : decode b_L_readGroups 72 = .ok (.lcmp, 1) := by decide +kernel
theorem d_L_readGroups_73 : decode b_L_readGroups 73 = .ok (.ifCond .eq 5, 3) := by decide +kernel
theorem d_L_readGroups_76 : decode b_L_readGroups 76 = .ok (.iconst 0, 1) := by decide +kernel
theorem d_L_readGroups_77 : decode b_L_readGroups 77 = .ok (.ireturn, 1) := by decide +kernel
theorem d_L_readGroups_78 : decode b_L_readGroups 78 = .ok (.aload_n 0, 1) := by decide +kernel
theorem d_L_readGroups_79 : decode b_L_readGroups 79 = .ok (.lload_n 1, 1) := by decide +kernel
theorem d_L_readGroups_80 : decode b_L_readGroups 80 = .ok (.l2i, 1) := by decide +kernel
theorem d_L_readGroups_81 : decode b_L_readGroups 81 = .ok (.putfield 39, 3) := by decide +kernel
theorem d_L_readGroups_84 : decode b_L_readGroups 84 = .ok (.aload_n 0, 1) := by decide +kernel
theorem d_L_readGroups_85 : decode b_L_readGroups 85 = .ok (.lload_n 3, 1) := by decide +kernel
theorem d_L_readGroups_86 : decode b_L_readGroups 86 = .ok (.l2i, 1) := by decide +kernel
theorem d_L_readGroups_87 : decode b_L_readGroups 87 = .ok (.putfield 43, 3) := by decide +kernel
theorem d_L_readGroups_90 : decode b_L_readGroups 90 = .ok (.aload_n 0, 1) := by decide +kernel
theorem d_L_readGroups_91 : decode b_L_readGroups 91 = .ok (.aload_n 0, 1) := by decide +kernel
theorem d_L_readGroups_92 : decode b_L_readGroups 92 = .ok (.getfield 15, 3) := by decide +kernel
theorem d_L_readGroups_95 : decode b_L_readGroups 95 = .ok (.invokevirtual 46, 3) := by decide +kernel
theorem d_L_readGroups_98 : decode b_L_readGroups 98 = .ok (.iconst 1, 1) := by decide +kernel
theorem d_L_readGroups_99 : decode b_L_readGroups 99 = .ok (.isub, 1) := by decide +kernel
theorem d_L_readGroups_100 : decode b_L_readGroups 100 = .ok (.aload_n 0, 1) := by decide +kernel
theorem d_L_readGroups_101 : decode b_L_readGroups 101 = .ok (.getfield 39, 3) := by decide +kernel
theorem d_L_readGroups_104 : decode b_L_readGroups 104 = .ok (.iadd, 1) := by decide +kernel
theorem d_L_readGroups_105 : decode b_L_readGroups 105 = .ok (.iconst 1, 1) := by decide +kernel
theorem d_L_readGroups_106 : decode b_L_readGroups 106 = .ok (.isub, 1) := by decide +kernel
theorem d_L_readGroups_107 : decode b_L_readGroups 107 = .ok (.aload_n 0, 1) := by decide +kernel
theorem d_L_readGroups_108 : decode b_L_readGroups 108 = .ok (.getfield 39, 3) := by decide +kernel
theorem d_L_readGroups_111 : decode b_L_readGroups 111 = .ok (.idiv, 1) := by decide +kernel
theorem d_L_readGroups_112 : decode b_L_readGroups 112 = .ok (.putfield 50, 3) := by decide +kernel
theorem d_L_readGroups_115 : decode b_L_readGroups 115 = .ok (.aload_n 0, 1) := by decide +kernel
theorem d_L_readGroups_116 : decode b_L_readGroups 116 = .ok (.aload_n 0, 1) := by decide +kernel
theorem d_L_readGroups_117 : decode b_L_readGroups 117 = .ok (.getfield 50, 3) := by decide +kernel
theorem d_L_readGroups_120 : decode b_L_readGroups 120 = .ok (.aload_n 0, 1) := by decide +kernel
theorem d_L_readGroups_121 : decode b_L_readGroups 121 = .ok (.getfield 43, 3) := by decide +kernel
theorem d_L_readGroups_124 : decode b_L_readGroups 124 = .ok (.imul, 1) := by decide +kernel
theorem d_L_readGroups_125 : decode b_L_readGroups 125 = .ok (.putfield 53, 3) := by decide +kernel
theorem d_L_readGroups_128 : decode b_L_readGroups 128 = .ok (.iconst 1, 1) := by decide +kernel
theorem d_L_readGroups_129 : decode b_L_readGroups 129 = .ok (.ireturn, 1) := by decide +kernel
theorem d_L_inodes_0 : decode b_L_inodes 0 = .ok (.aload_n 0, 1) := by decide +kernel
theorem d_L_inodes_1 : decode b_L_inodes 1 = .ok (.getfield 53, 3) := by decide +kernel
theorem d_L_inodes_4 : decode b_L_inodes 4 = .ok (.ireturn, 1) := by decide +kernel
theorem d_L_groupBlocks_0 : decode b_L_groupBlocks 0 = .ok (.aload_n 0, 1) := by decide +kernel
theorem d_L_groupBlocks_1 : decode b_L_groupBlocks 1 = .ok (.getfield 39, 3) := by decide +kernel
theorem d_L_groupBlocks_4 : decode b_L_groupBlocks 4 = .ok (.ireturn, 1) := by decide +kernel
theorem d_L_groups_0 : decode b_L_groups 0 = .ok (.aload_n 0, 1) := by decide +kernel
theorem d_L_groups_1 : decode b_L_groups 1 = .ok (.getfield 50, 3) := by decide +kernel
theorem d_L_groups_4 : decode b_L_groups 4 = .ok (.ireturn, 1) := by decide +kernel
theorem d_L_firstBlock_0 : decode b_L_firstBlock 0 = .ok (.iconst 1, 1) := by decide +kernel
theorem d_L_firstBlock_1 : decode b_L_firstBlock 1 = .ok (.iload_n 1, 1) := by decide +kernel
theorem d_L_firstBlock_2 : decode b_L_firstBlock 2 = .ok (.aload_n 0, 1) := by decide +kernel
theorem d_L_firstBlock_3 : decode b_L_firstBlock 3 = .ok (.getfield 39, 3) := by decide +kernel
theorem d_L_firstBlock_6 : decode b_L_firstBlock 6 = .ok (.imul, 1) := by decide +kernel
theorem d_L_firstBlock_7 : decode b_L_firstBlock 7 = .ok (.iadd, 1) := by decide +kernel
theorem d_L_firstBlock_8 : decode b_L_firstBlock 8 = .ok (.ireturn, 1) := by decide +kernel
theorem d_L_blocksOf_0 : decode b_L_blocksOf 0 = .ok (.aload_n 0, 1) := by decide +kernel
theorem d_L_blocksOf_1 : decode b_L_blocksOf 1 = .ok (.getfield 39, 3) := by decide +kernel
theorem d_L_blocksOf_4 : decode b_L_blocksOf 4 = .ok (.aload_n 0, 1) := by decide +kernel
theorem d_L_blocksOf_5 : decode b_L_blocksOf 5 = .ok (.getfield 15, 3) := by decide +kernel
theorem d_L_blocksOf_8 : decode b_L_blocksOf 8 = .ok (.invokevirtual 46, 3) := by decide +kernel
theorem d_L_blocksOf_11 : decode b_L_blocksOf 11 = .ok (.aload_n 0, 1) := by decide +kernel
theorem d_L_blocksOf_12 : decode b_L_blocksOf 12 = .ok (.iload_n 1, 1) := by decide +kernel
theorem d_L_blocksOf_13 : decode b_L_blocksOf 13 = .ok (.invokevirtual 56, 3) := by decide +kernel
theorem d_L_blocksOf_16 : decode b_L_blocksOf 16 = .ok (.isub, 1) := by decide +kernel
theorem d_L_blocksOf_17 : decode b_L_blocksOf 17 = .ok (.invokestatic 60, 3) := by decide +kernel
theorem d_L_blocksOf_20 : decode b_L_blocksOf 20 = .ok (.ireturn, 1) := by decide +kernel
theorem d_L_groupInodes_0 : decode b_L_groupInodes 0 = .ok (.aload_n 0, 1) := by decide +kernel
theorem d_L_groupInodes_1 : decode b_L_groupInodes 1 = .ok (.getfield 43, 3) := by decide +kernel
theorem d_L_groupInodes_4 : decode b_L_groupInodes 4 = .ok (.ireturn, 1) := by decide +kernel
theorem d_L_described_0 : decode b_L_described 0 = .ok (.aload_n 0, 1) := by decide +kernel
theorem d_L_described_1 : decode b_L_described 1 = .ok (.getfield 15, 3) := by decide +kernel
theorem d_L_described_4 : decode b_L_described 4 = .ok (.sipush 2048, 3) := by decide +kernel
theorem d_L_described_7 : decode b_L_described 7 = .ok (.bipush 32, 2) := by decide +kernel
theorem d_L_described_9 : decode b_L_described 9 = .ok (.iload_n 1, 1) := by decide +kernel
theorem d_L_described_10 : decode b_L_described 10 = .ok (.imul, 1) := by decide +kernel
theorem d_L_described_11 : decode b_L_described 11 = .ok (.iadd, 1) := by decide +kernel
theorem d_L_described_12 : decode b_L_described 12 = .ok (.iload_n 2, 1) := by decide +kernel
theorem d_L_described_13 : decode b_L_described 13 = .ok (.iadd, 1) := by decide +kernel
theorem d_L_described_14 : decode b_L_described 14 = .ok (.i2l, 1) := by decide +kernel
theorem d_L_described_15 : decode b_L_described 15 = .ok (.iload_n 3, 1) := by decide +kernel
theorem d_L_described_16 : decode b_L_described 16 = .ok (.invokevirtual 21, 3) := by decide +kernel
theorem d_L_described_19 : decode b_L_described 19 = .ok (.lreturn, 1) := by decide +kernel
theorem d_L_setMap_0 : decode b_L_setMap 0 = .ok (.iload_n 1, 1) := by decide +kernel
theorem d_L_setMap_1 : decode b_L_setMap 1 = .ok (.ifCond .lt 16, 3) := by decide +kernel
theorem d_L_setMap_4 : decode b_L_setMap 4 = .ok (.iload_n 1, 1) := by decide +kernel
theorem d_L_setMap_5 : decode b_L_setMap 5 = .ok (.bipush 8, 2) := by decide +kernel
theorem d_L_setMap_7 : decode b_L_setMap 7 = .ok (.if_icmp .ge 10, 3) := by decide +kernel
theorem d_L_setMap_10 : decode b_L_setMap 10 = .ok (.aload_n 0, 1) := by decide +kernel
theorem d_L_setMap_11 : decode b_L_setMap 11 = .ok (.getfield 9, 3) := by decide +kernel
theorem d_L_setMap_14 : decode b_L_setMap 14 = .ok (.iload_n 1, 1) := by decide +kernel
theorem d_L_setMap_15 : decode b_L_setMap 15 = .ok (.iload_n 2, 1) := by decide +kernel
theorem d_L_setMap_16 : decode b_L_setMap 16 = .ok (.iastore, 1) := by decide +kernel
theorem d_L_setMap_17 : decode b_L_setMap 17 = .ok (.return_, 1) := by decide +kernel
theorem d_L_groupOf_0 : decode b_L_groupOf 0 = .ok (.iload_n 1, 1) := by decide +kernel
theorem d_L_groupOf_1 : decode b_L_groupOf 1 = .ok (.iconst 1, 1) := by decide +kernel
theorem d_L_groupOf_2 : decode b_L_groupOf 2 = .ok (.if_icmp .lt 21, 3) := by decide +kernel
theorem d_L_groupOf_5 : decode b_L_groupOf 5 = .ok (.aload_n 0, 1) := by decide +kernel
theorem d_L_groupOf_6 : decode b_L_groupOf 6 = .ok (.getfield 43, 3) := by decide +kernel
theorem d_L_groupOf_9 : decode b_L_groupOf 9 = .ok (.ifCond .le 14, 3) := by decide +kernel
theorem d_L_groupOf_12 : decode b_L_groupOf 12 = .ok (.iload_n 1, 1) := by decide +kernel
theorem d_L_groupOf_13 : decode b_L_groupOf 13 = .ok (.iconst 1, 1) := by decide +kernel
theorem d_L_groupOf_14 : decode b_L_groupOf 14 = .ok (.isub, 1) := by decide +kernel
theorem d_L_groupOf_15 : decode b_L_groupOf 15 = .ok (.aload_n 0, 1) := by decide +kernel
theorem d_L_groupOf_16 : decode b_L_groupOf 16 = .ok (.getfield 43, 3) := by decide +kernel
theorem d_L_groupOf_19 : decode b_L_groupOf 19 = .ok (.idiv, 1) := by decide +kernel
theorem d_L_groupOf_20 : decode b_L_groupOf 20 = .ok (.goto 4, 3) := by decide +kernel
theorem d_L_groupOf_23 : decode b_L_groupOf 23 = .ok (.iconst (-1), 1) := by decide +kernel
theorem d_L_groupOf_24 : decode b_L_groupOf 24 = .ok (.ireturn, 1) := by decide +kernel
theorem d_L_isUsed_0 : decode b_L_isUsed 0 = .ok (.aload_n 0, 1) := by decide +kernel
theorem d_L_isUsed_1 : decode b_L_isUsed 1 = .ok (.iload_n 1, 1) := by decide +kernel
theorem d_L_isUsed_2 : decode b_L_isUsed 2 = .ok (.invokevirtual 74, 3) := by decide +kernel
theorem d_L_isUsed_5 : decode b_L_isUsed 5 = .ok (.istore_n 2, 1) := by decide +kernel
theorem d_L_isUsed_6 : decode b_L_isUsed 6 = .ok (.iload_n 2, 1) := by decide +kernel
theorem d_L_isUsed_7 : decode b_L_isUsed 7 = .ok (.ifCond .lt 9, 3) := by decide +kernel
theorem d_L_isUsed_10 : decode b_L_isUsed 10 = .ok (.iload_n 2, 1) := by decide +kernel
theorem d_L_isUsed_11 : decode b_L_isUsed 11 = .ok (.bipush 8, 2) := by decide +kernel
theorem d_L_isUsed_13 : decode b_L_isUsed 13 = .ok (.if_icmp .lt 5, 3) := by decide +kernel
theorem d_L_isUsed_16 : decode b_L_isUsed 16 = .ok (.iconst 0, 1) := by decide +kernel
theorem d_L_isUsed_17 : decode b_L_isUsed 17 = .ok (.ireturn, 1) := by decide +kernel
theorem d_L_isUsed_18 : decode b_L_isUsed 18 = .ok (.iload_n 1, 1) := by decide +kernel
theorem d_L_isUsed_19 : decode b_L_isUsed 19 = .ok (.iconst 1, 1) := by decide +kernel
theorem d_L_isUsed_20 : decode b_L_isUsed 20 = .ok (.isub, 1) := by decide +kernel
theorem d_L_isUsed_21 : decode b_L_isUsed 21 = .ok (.iload_n 2, 1) := by decide +kernel
theorem d_L_isUsed_22 : decode b_L_isUsed 22 = .ok (.aload_n 0, 1) := by decide +kernel
theorem d_L_isUsed_23 : decode b_L_isUsed 23 = .ok (.getfield 43, 3) := by decide +kernel
theorem d_L_isUsed_26 : decode b_L_isUsed 26 = .ok (.imul, 1) := by decide +kernel
theorem d_L_isUsed_27 : decode b_L_isUsed 27 = .ok (.isub, 1) := by decide +kernel
theorem d_L_isUsed_28 : decode b_L_isUsed 28 = .ok (.istore_n 3, 1) := by decide +kernel
theorem d_L_isUsed_29 : decode b_L_isUsed 29 = .ok (.aload_n 0, 1) := by decide +kernel
theorem d_L_isUsed_30 : decode b_L_isUsed 30 = .ok (.getfield 15, 3) := by decide +kernel
theorem d_L_isUsed_33 : decode b_L_isUsed 33 = .ok (.ldc2_w 66, 3) := by decide +kernel
theorem d_L_isUsed_36 : decode b_L_isUsed 36 = .ok (.aload_n 0, 1) := by decide +kernel
theorem d_L_isUsed_37 : decode b_L_isUsed 37 = .ok (.getfield 9, 3) := by decide +kernel
theorem d_L_isUsed_40 : decode b_L_isUsed 40 = .ok (.iload_n 2, 1) := by decide +kernel
theorem d_L_isUsed_41 : decode b_L_isUsed 41 = .ok (.iaload, 1) := by decide +kernel
theorem d_L_isUsed_42 : decode b_L_isUsed 42 = .ok (.iconst 1, 1) := by decide +kernel
theorem d_L_isUsed_43 : decode b_L_isUsed 43 = .ok (.iadd, 1) := by decide +kernel
theorem d_L_isUsed_44 : decode b_L_isUsed 44 = .ok (.i2l, 1) := by decide +kernel
theorem d_L_isUsed_45 : decode b_L_isUsed 45 = .ok (.lmul, 1) := by decide +kernel
theorem d_L_isUsed_46 : decode b_L_isUsed 46 = .ok (.iload_n 3, 1) := by decide +kernel
theorem d_L_isUsed_47 : decode b_L_isUsed 47 = .ok (.bipush 8, 2) := by decide +kernel
theorem d_L_isUsed_49 : decode b_L_isUsed 49 = .ok (.idiv, 1) := by decide +kernel
theorem d_L_isUsed_50 : decode b_L_isUsed 50 = .ok (.i2l, 1) := by decide +kernel
theorem d_L_isUsed_51 : decode b_L_isUsed 51 = .ok (.ladd, 1) := by decide +kernel
theorem d_L_isUsed_52 : decode b_L_isUsed 52 = .ok (.iconst 1, 1) := by decide +kernel
theorem d_L_isUsed_53 : decode b_L_isUsed 53 = .ok (.invokevirtual 21, 3) := by decide +kernel
theorem d_L_isUsed_56 : decode b_L_isUsed 56 = .ok (.iload_n 3, 1) := by decide +kernel
theorem d_L_isUsed_57 : decode b_L_isUsed 57 = .ok (.bipush 8, 2) := by decide +kernel
theorem d_L_isUsed_59 : decode b_L_isUsed 59 = .ok (.irem, 1) := by decide +kernel
theorem d_L_isUsed_60 : decode b_L_isUsed 60 = .ok (.lshr, 1) := by decide +kernel
theorem d_L_isUsed_61 : decode b_L_isUsed 61 = .ok (.lconst 1, 1) := by decide +kernel
theorem d_L_isUsed_62 : decode b_L_isUsed 62 = .ok (.land, 1) := by decide +kernel
theorem d_L_isUsed_63 : decode b_L_isUsed 63 = .ok (.lconst 0, 1) := by decide +kernel
theorem d_L_isUsed_64 : decode b_L_isUsed 64 = .ok (.lcmp, 1) := by decide +kernel
theorem d_L_isUsed_65 : decode b_L_isUsed 65 = .ok (.ifCond .eq 7, 3) := by decide +kernel
theorem d_L_isUsed_68 : decode b_L_isUsed 68 = .ok (.iconst 1, 1) := by decide +kernel
theorem d_L_isUsed_69 : decode b_L_isUsed 69 = .ok (.goto 4, 3) := by decide +kernel
theorem d_L_isUsed_72 : decode b_L_isUsed 72 = .ok (.iconst 0, 1) := by decide +kernel
theorem d_L_isUsed_73 : decode b_L_isUsed 73 = .ok (.ireturn, 1) := by decide +kernel
theorem d_L_inodePlace_0 : decode b_L_inodePlace 0 = .ok (.iload_n 1, 1) := by decide +kernel
theorem d_L_inodePlace_1 : decode b_L_inodePlace 1 = .ok (.iconst 1, 1) := by decide +kernel
theorem d_L_inodePlace_2 : decode b_L_inodePlace 2 = .ok (.if_icmp .lt 11, 3) := by decide +kernel
theorem d_L_inodePlace_5 : decode b_L_inodePlace 5 = .ok (.aload_n 0, 1) := by decide +kernel
theorem d_L_inodePlace_6 : decode b_L_inodePlace 6 = .ok (.getfield 43, 3) := by decide +kernel
theorem d_L_inodePlace_9 : decode b_L_inodePlace 9 = .ok (.iconst 1, 1) := by decide +kernel
theorem d_L_inodePlace_10 : decode b_L_inodePlace 10 = .ok (.if_icmp .ge 7, 3) := by decide +kernel
theorem d_L_inodePlace_13 : decode b_L_inodePlace 13 = .ok (.ldc2_w 68, 3) := by decide +kernel
theorem d_L_inodePlace_16 : decode b_L_inodePlace 16 = .ok (.lreturn, 1) := by decide +kernel
theorem d_L_inodePlace_17 : decode b_L_inodePlace 17 = .ok (.iload_n 1, 1) := by decide +kernel
theorem d_L_inodePlace_18 : decode b_L_inodePlace 18 = .ok (.iconst 1, 1) := by decide +kernel
theorem d_L_inodePlace_19 : decode b_L_inodePlace 19 = .ok (.isub, 1) := by decide +kernel
theorem d_L_inodePlace_20 : decode b_L_inodePlace 20 = .ok (.aload_n 0, 1) := by decide +kernel
theorem d_L_inodePlace_21 : decode b_L_inodePlace 21 = .ok (.getfield 43, 3) := by decide +kernel
theorem d_L_inodePlace_24 : decode b_L_inodePlace 24 = .ok (.idiv, 1) := by decide +kernel
theorem d_L_inodePlace_25 : decode b_L_inodePlace 25 = .ok (.istore_n 2, 1) := by decide +kernel
theorem d_L_inodePlace_26 : decode b_L_inodePlace 26 = .ok (.iload_n 2, 1) := by decide +kernel
theorem d_L_inodePlace_27 : decode b_L_inodePlace 27 = .ok (.bipush 8, 2) := by decide +kernel
theorem d_L_inodePlace_29 : decode b_L_inodePlace 29 = .ok (.if_icmp .lt 7, 3) := by decide +kernel
theorem d_L_inodePlace_32 : decode b_L_inodePlace 32 = .ok (.ldc2_w 68, 3) := by decide +kernel
theorem d_L_inodePlace_35 : decode b_L_inodePlace 35 = .ok (.lreturn, 1) := by decide +kernel
theorem d_L_inodePlace_36 : decode b_L_inodePlace 36 = .ok (.ldc2_w 66, 3) := by decide +kernel
theorem d_L_inodePlace_39 : decode b_L_inodePlace 39 = .ok (.aload_n 0, 1) := by decide +kernel
theorem d_L_inodePlace_40 : decode b_L_inodePlace 40 = .ok (.getfield 9, 3) := by decide +kernel
theorem d_L_inodePlace_43 : decode b_L_inodePlace 43 = .ok (.iload_n 2, 1) := by decide +kernel
theorem d_L_inodePlace_44 : decode b_L_inodePlace 44 = .ok (.iaload, 1) := by decide +kernel
theorem d_L_inodePlace_45 : decode b_L_inodePlace 45 = .ok (.iconst 2, 1) := by decide +kernel
theorem d_L_inodePlace_46 : decode b_L_inodePlace 46 = .ok (.iadd, 1) := by decide +kernel
theorem d_L_inodePlace_47 : decode b_L_inodePlace 47 = .ok (.i2l, 1) := by decide +kernel
theorem d_L_inodePlace_48 : decode b_L_inodePlace 48 = .ok (.lmul, 1) := by decide +kernel
theorem d_L_inodePlace_49 : decode b_L_inodePlace 49 = .ok (.sipush 128, 3) := by decide +kernel
theorem d_L_inodePlace_52 : decode b_L_inodePlace 52 = .ok (.iload_n 1, 1) := by decide +kernel
theorem d_L_inodePlace_53 : decode b_L_inodePlace 53 = .ok (.iconst 1, 1) := by decide +kernel
theorem d_L_inodePlace_54 : decode b_L_inodePlace 54 = .ok (.isub, 1) := by decide +kernel
theorem d_L_inodePlace_55 : decode b_L_inodePlace 55 = .ok (.iload_n 2, 1) := by decide +kernel
theorem d_L_inodePlace_56 : decode b_L_inodePlace 56 = .ok (.aload_n 0, 1) := by decide +kernel
theorem d_L_inodePlace_57 : decode b_L_inodePlace 57 = .ok (.getfield 43, 3) := by decide +kernel
theorem d_L_inodePlace_60 : decode b_L_inodePlace 60 = .ok (.imul, 1) := by decide +kernel
theorem d_L_inodePlace_61 : decode b_L_inodePlace 61 = .ok (.isub, 1) := by decide +kernel
theorem d_L_inodePlace_62 : decode b_L_inodePlace 62 = .ok (.imul, 1) := by decide +kernel
theorem d_L_inodePlace_63 : decode b_L_inodePlace 63 = .ok (.i2l, 1) := by decide +kernel
theorem d_L_inodePlace_64 : decode b_L_inodePlace 64 = .ok (.ladd, 1) := by decide +kernel
theorem d_L_inodePlace_65 : decode b_L_inodePlace 65 = .ok (.lreturn, 1) := by decide +kernel
theorem d_L_typeOf_0 : decode b_L_typeOf 0 = .ok (.aload_n 0, 1) := by decide +kernel
theorem d_L_typeOf_1 : decode b_L_typeOf 1 = .ok (.getfield 15, 3) := by decide +kernel
theorem d_L_typeOf_4 : decode b_L_typeOf 4 = .ok (.aload_n 0, 1) := by decide +kernel
theorem d_L_typeOf_5 : decode b_L_typeOf 5 = .ok (.iload_n 1, 1) := by decide +kernel
theorem d_L_typeOf_6 : decode b_L_typeOf 6 = .ok (.invokevirtual 77, 3) := by decide +kernel
theorem d_L_typeOf_9 : decode b_L_typeOf 9 = .ok (.iconst 2, 1) := by decide +kernel
theorem d_L_typeOf_10 : decode b_L_typeOf 10 = .ok (.invokevirtual 21, 3) := by decide +kernel
theorem d_L_typeOf_13 : decode b_L_typeOf 13 = .ok (.l2i, 1) := by decide +kernel
theorem d_L_typeOf_14 : decode b_L_typeOf 14 = .ok (.ldc 80, 2) := by decide +kernel
theorem d_L_typeOf_16 : decode b_L_typeOf 16 = .ok (.iand, 1) := by decide +kernel
theorem d_L_typeOf_17 : decode b_L_typeOf 17 = .ok (.ireturn, 1) := by decide +kernel
theorem d_L_sizeOf_0 : decode b_L_sizeOf 0 = .ok (.aload_n 0, 1) := by decide +kernel
theorem d_L_sizeOf_1 : decode b_L_sizeOf 1 = .ok (.getfield 15, 3) := by decide +kernel
theorem d_L_sizeOf_4 : decode b_L_sizeOf 4 = .ok (.aload_n 0, 1) := by decide +kernel
theorem d_L_sizeOf_5 : decode b_L_sizeOf 5 = .ok (.iload_n 1, 1) := by decide +kernel
theorem d_L_sizeOf_6 : decode b_L_sizeOf 6 = .ok (.invokevirtual 77, 3) := by decide +kernel
theorem d_L_sizeOf_9 : decode b_L_sizeOf 9 = .ok (.ldc2_w 81, 3) := by decide +kernel
theorem d_L_sizeOf_12 : decode b_L_sizeOf 12 = .ok (.ladd, 1) := by decide +kernel
theorem d_L_sizeOf_13 : decode b_L_sizeOf 13 = .ok (.iconst 4, 1) := by decide +kernel
theorem d_L_sizeOf_14 : decode b_L_sizeOf 14 = .ok (.invokevirtual 21, 3) := by decide +kernel
theorem d_L_sizeOf_17 : decode b_L_sizeOf 17 = .ok (.lreturn, 1) := by decide +kernel
theorem d_L_blocksFor_0 : decode b_L_blocksFor 0 = .ok (.lload_n 1, 1) := by decide +kernel
theorem d_L_blocksFor_1 : decode b_L_blocksFor 1 = .ok (.ldc2_w 66, 3) := by decide +kernel
theorem d_L_blocksFor_4 : decode b_L_blocksFor 4 = .ok (.ladd, 1) := by decide +kernel
theorem d_L_blocksFor_5 : decode b_L_blocksFor 5 = .ok (.lconst 1, 1) := by decide +kernel
theorem d_L_blocksFor_6 : decode b_L_blocksFor 6 = .ok (.lsub, 1) := by decide +kernel
theorem d_L_blocksFor_7 : decode b_L_blocksFor 7 = .ok (.ldc2_w 66, 3) := by decide +kernel
theorem d_L_blocksFor_10 : decode b_L_blocksFor 10 = .ok (.ldiv, 1) := by decide +kernel
theorem d_L_blocksFor_11 : decode b_L_blocksFor 11 = .ok (.l2i, 1) := by decide +kernel
theorem d_L_blocksFor_12 : decode b_L_blocksFor 12 = .ok (.ireturn, 1) := by decide +kernel
theorem d_L_field_0 : decode b_L_field 0 = .ok (.aload_n 0, 1) := by decide +kernel
theorem d_L_field_1 : decode b_L_field 1 = .ok (.getfield 15, 3) := by decide +kernel
theorem d_L_field_4 : decode b_L_field 4 = .ok (.aload_n 0, 1) := by decide +kernel
theorem d_L_field_5 : decode b_L_field 5 = .ok (.iload_n 1, 1) := by decide +kernel
theorem d_L_field_6 : decode b_L_field 6 = .ok (.invokevirtual 77, 3) := by decide +kernel
theorem d_L_field_9 : decode b_L_field 9 = .ok (.iload_n 2, 1) := by decide +kernel
theorem d_L_field_10 : decode b_L_field 10 = .ok (.i2l, 1) := by decide +kernel
theorem d_L_field_11 : decode b_L_field 11 = .ok (.ladd, 1) := by decide +kernel
theorem d_L_field_12 : decode b_L_field 12 = .ok (.iload_n 3, 1) := by decide +kernel
theorem d_L_field_13 : decode b_L_field 13 = .ok (.invokevirtual 21, 3) := by decide +kernel
theorem d_L_field_16 : decode b_L_field 16 = .ok (.lreturn, 1) := by decide +kernel
theorem d_L_blockOf_0 : decode b_L_blockOf 0 = .ok (.aload_n 0, 1) := by decide +kernel
theorem d_L_blockOf_1 : decode b_L_blockOf 1 = .ok (.iload_n 1, 1) := by decide +kernel
theorem d_L_blockOf_2 : decode b_L_blockOf 2 = .ok (.invokevirtual 77, 3) := by decide +kernel
theorem d_L_blockOf_5 : decode b_L_blockOf 5 = .ok (.lstore_n 3, 1) := by decide +kernel
theorem d_L_blockOf_6 : decode b_L_blockOf 6 = .ok (.iload_n 2, 1) := by decide +kernel
theorem d_L_blockOf_7 : decode b_L_blockOf 7 = .ok (.bipush 12, 2) := by decide +kernel
theorem d_L_blockOf_9 : decode b_L_blockOf 9 = .ok (.if_icmp .ge 22, 3) := by decide +kernel
theorem d_L_blockOf_12 : decode b_L_blockOf 12 = .ok (.aload_n 0, 1) := by decide +kernel
theorem d_L_blockOf_13 : decode b_L_blockOf 13 = .ok (.getfield 15, 3) := by decide +kernel
theorem d_L_blockOf_16 : decode b_L_blockOf 16 = .ok (.lload_n 3, 1) := by decide +kernel
theorem d_L_blockOf_17 : decode b_L_blockOf 17 = .ok (.ldc2_w 83, 3) := by decide +kernel
theorem d_L_blockOf_20 : decode b_L_blockOf 20 = .ok (.ladd, 1) := by decide +kernel
theorem d_L_blockOf_21 : decode b_L_blockOf 21 = .ok (.iconst 4, 1) := by decide +kernel
theorem d_L_blockOf_22 : decode b_L_blockOf 22 = .ok (.iload_n 2, 1) := by decide +kernel
theorem d_L_blockOf_23 : decode b_L_blockOf 23 = .ok (.imul, 1) := by decide +kernel
theorem d_L_blockOf_24 : decode b_L_blockOf 24 = .ok (.i2l, 1) := by decide +kernel
theorem d_L_blockOf_25 : decode b_L_blockOf 25 = .ok (.ladd, 1) := by decide +kernel
theorem d_L_blockOf_26 : decode b_L_blockOf 26 = .ok (.iconst 4, 1) := by decide +kernel
theorem d_L_blockOf_27 : decode b_L_blockOf 27 = .ok (.invokevirtual 21, 3) := by decide +kernel
theorem d_L_blockOf_30 : decode b_L_blockOf 30 = .ok (.lreturn, 1) := by decide +kernel
theorem d_L_blockOf_31 : decode b_L_blockOf 31 = .ok (.iload_n 2, 1) := by decide +kernel
theorem d_L_blockOf_32 : decode b_L_blockOf 32 = .ok (.sipush 268, 3) := by decide +kernel
theorem d_L_blockOf_35 : decode b_L_blockOf 35 = .ok (.if_icmp .ge 37, 3) := by decide +kernel
theorem d_L_blockOf_38 : decode b_L_blockOf 38 = .ok (.aload_n 0, 1) := by decide +kernel
theorem d_L_blockOf_39 : decode b_L_blockOf 39 = .ok (.getfield 15, 3) := by decide +kernel
theorem d_L_blockOf_42 : decode b_L_blockOf 42 = .ok (.ldc2_w 66, 3) := by decide +kernel
theorem d_L_blockOf_45 : decode b_L_blockOf 45 = .ok (.aload_n 0, 1) := by decide +kernel
theorem d_L_blockOf_46 : decode b_L_blockOf 46 = .ok (.getfield 15, 3) := by decide +kernel
theorem d_L_blockOf_49 : decode b_L_blockOf 49 = .ok (.lload_n 3, 1) := by decide +kernel
theorem d_L_blockOf_50 : decode b_L_blockOf 50 = .ok (.ldc2_w 85, 3) := by decide +kernel
theorem d_L_blockOf_53 : decode b_L_blockOf 53 = .ok (.ladd, 1) := by decide +kernel
theorem d_L_blockOf_54 : decode b_L_blockOf 54 = .ok (.iconst 4, 1) := by decide +kernel
theorem d_L_blockOf_55 : decode b_L_blockOf 55 = .ok (.invokevirtual 21, 3) := by decide +kernel
theorem d_L_blockOf_58 : decode b_L_blockOf 58 = .ok (.lmul, 1) := by decide +kernel
theorem d_L_blockOf_59 : decode b_L_blockOf 59 = .ok (.iconst 4, 1) := by decide +kernel
theorem d_L_blockOf_60 : decode b_L_blockOf 60 = .ok (.iload_n 2, 1) := by decide +kernel
theorem d_L_blockOf_61 : decode b_L_blockOf 61 = .ok (.bipush 12, 2) := by decide +kernel
theorem d_L_blockOf_63 : decode b_L_blockOf 63 = .ok (.isub, 1) := by decide +kernel
theorem d_L_blockOf_64 : decode b_L_blockOf 64 = .ok (.imul, 1) := by decide +kernel
theorem d_L_blockOf_65 : decode b_L_blockOf 65 = .ok (.i2l, 1) := by decide +kernel
theorem d_L_blockOf_66 : decode b_L_blockOf 66 = .ok (.ladd, 1) := by decide +kernel
theorem d_L_blockOf_67 : decode b_L_blockOf 67 = .ok (.iconst 4, 1) := by decide +kernel
theorem d_L_blockOf_68 : decode b_L_blockOf 68 = .ok (.invokevirtual 21, 3) := by decide +kernel
theorem d_L_blockOf_71 : decode b_L_blockOf 71 = .ok (.lreturn, 1) := by decide +kernel
theorem d_L_blockOf_72 : decode b_L_blockOf 72 = .ok (.iload_n 2, 1) := by decide +kernel
theorem d_L_blockOf_73 : decode b_L_blockOf 73 = .ok (.sipush 268, 3) := by decide +kernel
theorem d_L_blockOf_76 : decode b_L_blockOf 76 = .ok (.isub, 1) := by decide +kernel
theorem d_L_blockOf_77 : decode b_L_blockOf 77 = .ok (.istore 5, 2) := by decide +kernel
theorem d_L_blockOf_79 : decode b_L_blockOf 79 = .ok (.ldc2_w 66, 3) := by decide +kernel
theorem d_L_blockOf_82 : decode b_L_blockOf 82 = .ok (.aload_n 0, 1) := by decide +kernel
theorem d_L_blockOf_83 : decode b_L_blockOf 83 = .ok (.getfield 15, 3) := by decide +kernel
theorem d_L_blockOf_86 : decode b_L_blockOf 86 = .ok (.lload_n 3, 1) := by decide +kernel
theorem d_L_blockOf_87 : decode b_L_blockOf 87 = .ok (.ldc2_w 87, 3) := by decide +kernel
theorem d_L_blockOf_90 : decode b_L_blockOf 90 = .ok (.ladd, 1) := by decide +kernel
theorem d_L_blockOf_91 : decode b_L_blockOf 91 = .ok (.iconst 4, 1) := by decide +kernel
theorem d_L_blockOf_92 : decode b_L_blockOf 92 = .ok (.invokevirtual 21, 3) := by decide +kernel
theorem d_L_blockOf_95 : decode b_L_blockOf 95 = .ok (.lmul, 1) := by decide +kernel
theorem d_L_blockOf_96 : decode b_L_blockOf 96 = .ok (.lstore 6, 2) := by decide +kernel
theorem d_L_blockOf_98 : decode b_L_blockOf 98 = .ok (.ldc2_w 66, 3) := by decide +kernel
theorem d_L_blockOf_101 : decode b_L_blockOf 101 = .ok (.aload_n 0, 1) := by decide +kernel
theorem d_L_blockOf_102 : decode b_L_blockOf 102 = .ok (.getfield 15, 3) := by decide +kernel
theorem d_L_blockOf_105 : decode b_L_blockOf 105 = .ok (.lload 6, 2) := by decide +kernel
theorem d_L_blockOf_107 : decode b_L_blockOf 107 = .ok (.iconst 4, 1) := by decide +kernel
theorem d_L_blockOf_108 : decode b_L_blockOf 108 = .ok (.iload 5, 2) := by decide +kernel
theorem d_L_blockOf_110 : decode b_L_blockOf 110 = .ok (.sipush 256, 3) := by decide +kernel
theorem d_L_blockOf_113 : decode b_L_blockOf 113 = .ok (.idiv, 1) := by decide +kernel
theorem d_L_blockOf_114 : decode b_L_blockOf 114 = .ok (.imul, 1) := by decide +kernel
theorem d_L_blockOf_115 : decode b_L_blockOf 115 = .ok (.i2l, 1) := by decide +kernel
theorem d_L_blockOf_116 : decode b_L_blockOf 116 = .ok (.ladd, 1) := by decide +kernel
theorem d_L_blockOf_117 : decode b_L_blockOf 117 = .ok (.iconst 4, 1) := by decide +kernel
theorem d_L_blockOf_118 : decode b_L_blockOf 118 = .ok (.invokevirtual 21, 3) := by decide +kernel
theorem d_L_blockOf_121 : decode b_L_blockOf 121 = .ok (.lmul, 1) := by decide +kernel
theorem d_L_blockOf_122 : decode b_L_blockOf 122 = .ok (.lstore 8, 2) := by decide +kernel
theorem d_L_blockOf_124 : decode b_L_blockOf 124 = .ok (.aload_n 0, 1) := by decide +kernel
theorem d_L_blockOf_125 : decode b_L_blockOf 125 = .ok (.getfield 15, 3) := by decide +kernel
theorem d_L_blockOf_128 : decode b_L_blockOf 128 = .ok (.lload 8, 2) := by decide +kernel
theorem d_L_blockOf_130 : decode b_L_blockOf 130 = .ok (.iconst 4, 1) := by decide +kernel
theorem d_L_blockOf_131 : decode b_L_blockOf 131 = .ok (.iload 5, 2) := by decide +kernel
theorem d_L_blockOf_133 : decode b_L_blockOf 133 = .ok (.sipush 256, 3) := by decide +kernel
theorem d_L_blockOf_136 : decode b_L_blockOf 136 = .ok (.irem, 1) := by decide +kernel
theorem d_L_blockOf_137 : decode b_L_blockOf 137 = .ok (.imul, 1) := by decide +kernel
theorem d_L_blockOf_138 : decode b_L_blockOf 138 = .ok (.i2l, 1) := by decide +kernel
theorem d_L_blockOf_139 : decode b_L_blockOf 139 = .ok (.ladd, 1) := by decide +kernel
theorem d_L_blockOf_140 : decode b_L_blockOf 140 = .ok (.iconst 4, 1) := by decide +kernel
theorem d_L_blockOf_141 : decode b_L_blockOf 141 = .ok (.invokevirtual 21, 3) := by decide +kernel
theorem d_L_blockOf_144 : decode b_L_blockOf 144 = .ok (.lreturn, 1) := by decide +kernel
theorem d_L_isInode_0 : decode b_L_isInode 0 = .ok (.lload_n 1, 1) := by decide +kernel
theorem d_L_isInode_1 : decode b_L_isInode 1 = .ok (.lconst 1, 1) := by decide +kernel
theorem d_L_isInode_2 : decode b_L_isInode 2 = .ok (.lcmp, 1) := by decide +kernel
theorem d_L_isInode_3 : decode b_L_isInode 3 = .ok (.ifCond .lt 17, 3) := by decide +kernel
theorem d_L_isInode_6 : decode b_L_isInode 6 = .ok (.lload_n 1, 1) := by decide +kernel
theorem d_L_isInode_7 : decode b_L_isInode 7 = .ok (.aload_n 0, 1) := by decide +kernel
theorem d_L_isInode_8 : decode b_L_isInode 8 = .ok (.getfield 53, 3) := by decide +kernel
theorem d_L_isInode_11 : decode b_L_isInode 11 = .ok (.i2l, 1) := by decide +kernel
theorem d_L_isInode_12 : decode b_L_isInode 12 = .ok (.lcmp, 1) := by decide +kernel
theorem d_L_isInode_13 : decode b_L_isInode 13 = .ok (.ifCond .gt 7, 3) := by decide +kernel
theorem d_L_isInode_16 : decode b_L_isInode 16 = .ok (.iconst 1, 1) := by decide +kernel
theorem d_L_isInode_17 : decode b_L_isInode 17 = .ok (.goto 4, 3) := by decide +kernel
theorem d_L_isInode_20 : decode b_L_isInode 20 = .ok (.iconst 0, 1) := by decide +kernel
theorem d_L_isInode_21 : decode b_L_isInode 21 = .ok (.ireturn, 1) := by decide +kernel
theorem d_L_blockMap_0 : decode b_L_blockMap 0 = .ok (.iload_n 1, 1) := by decide +kernel
theorem d_L_blockMap_1 : decode b_L_blockMap 1 = .ok (.ifCond .lt 23, 3) := by decide +kernel
theorem d_L_blockMap_4 : decode b_L_blockMap 4 = .ok (.iload_n 1, 1) := by decide +kernel
theorem d_L_blockMap_5 : decode b_L_blockMap 5 = .ok (.bipush 8, 2) := by decide +kernel
theorem d_L_blockMap_7 : decode b_L_blockMap 7 = .ok (.if_icmp .ge 17, 3) := by decide +kernel
theorem d_L_blockMap_10 : decode b_L_blockMap 10 = .ok (.ldc2_w 66, 3) := by decide +kernel
theorem d_L_blockMap_13 : decode b_L_blockMap 13 = .ok (.aload_n 0, 1) := by decide +kernel
theorem d_L_blockMap_14 : decode b_L_blockMap 14 = .ok (.getfield 9, 3) := by decide +kernel
theorem d_L_blockMap_17 : decode b_L_blockMap 17 = .ok (.iload_n 1, 1) := by decide +kernel
theorem d_L_blockMap_18 : decode b_L_blockMap 18 = .ok (.iaload, 1) := by decide +kernel
theorem d_L_blockMap_19 : decode b_L_blockMap 19 = .ok (.i2l, 1) := by decide +kernel
theorem d_L_blockMap_20 : decode b_L_blockMap 20 = .ok (.lmul, 1) := by decide +kernel
theorem d_L_blockMap_21 : decode b_L_blockMap 21 = .ok (.goto 6, 3) := by decide +kernel
theorem d_L_blockMap_24 : decode b_L_blockMap 24 = .ok (.ldc2_w 68, 3) := by decide +kernel
theorem d_L_blockMap_27 : decode b_L_blockMap 27 = .ok (.lreturn, 1) := by decide +kernel
theorem d_L_inodeMap_0 : decode b_L_inodeMap 0 = .ok (.aload_n 0, 1) := by decide +kernel
theorem d_L_inodeMap_1 : decode b_L_inodeMap 1 = .ok (.iload_n 1, 1) := by decide +kernel
theorem d_L_inodeMap_2 : decode b_L_inodeMap 2 = .ok (.invokevirtual 70, 3) := by decide +kernel
theorem d_L_inodeMap_5 : decode b_L_inodeMap 5 = .ok (.ldc2_w 66, 3) := by decide +kernel
theorem d_L_inodeMap_8 : decode b_L_inodeMap 8 = .ok (.ladd, 1) := by decide +kernel
theorem d_L_inodeMap_9 : decode b_L_inodeMap 9 = .ok (.lreturn, 1) := by decide +kernel
end
section
def f_L_readGroups_50 (NW : Nat) (bk : Int32) (sz : Int32) (wd : Nat → Int64) (gB : Int32) (gI : Int32) (gN : Int32) (iN : Int32) (x1 : Int64) (x3 : Int64) : Option (Int32 × Int32 × Int32 × Int32 × Int32) := (if x3 < ((8 : Int64)) then some ((0 : Int32), gB, gI, gN, iN) else (if ((8192 : Int64)) < x3 then some ((0 : Int32), gB, gI, gN, iN) else (if (x3 - x3 / ((8 : Int64)) * ((8 : Int64))) = ((0 : Int64)) then bd1 (f_D_blocks NW bk) (fun (r_4 : Int32) => if (Int64.toInt32 x1) = 0 then none else some ((1 : Int32), Int64.toInt32 x1, Int64.toInt32 x3, (((r_4 - ((1 : Int32))) + (Int64.toInt32 x1)) - ((1 : Int32))) / (Int64.toInt32 x1), ((((r_4 - ((1 : Int32))) + (Int64.toInt32 x1)) - ((1 : Int32))) / (Int64.toInt32 x1)) * (Int64.toInt32 x3))) else some ((0 : Int32), gB, gI, gN, iN))))
def f_L_readGroups (NW : Nat) (bk : Int32) (sz : Int32) (wd : Nat → Int64) (gB : Int32) (gI : Int32) (gN : Int32) (iN : Int32) : Option (Int32 × Int32 × Int32 × Int32 × Int32) := bd1 (f_D_number NW sz wd ((1056 : Int64)) ((4 : Int32))) (fun (r_1 : Int64) => bd1 (f_D_number NW sz wd ((1064 : Int64)) ((4 : Int32))) (fun (r_3 : Int64) => (if r_1 = ((64 : Int64)) then (f_L_readGroups_50 NW bk sz wd gB gI gN iN r_1 r_3) else (if r_1 = ((128 : Int64)) then (f_L_readGroups_50 NW bk sz wd gB gI gN iN r_1 r_3) else (if r_1 = ((256 : Int64)) then (f_L_readGroups_50 NW bk sz wd gB gI gN iN r_1 r_3) else some ((0 : Int32), gB, gI, gN, iN))))))
def f_L_inodes (NW : Nat) (iN : Int32) : Option (Int32) := some (iN)
def f_L_groupBlocks (NW : Nat) (gB : Int32) : Option (Int32) := some (gB)
def f_L_groups (NW : Nat) (gN : Int32) : Option (Int32) := some (gN)
def f_L_firstBlock (NW : Nat) (gB : Int32) (a1 : Int32) : Option (Int32) := some (((1 : Int32)) + (a1 * gB))
def f_L_blocksOf (NW : Nat) (bk : Int32) (gB : Int32) (a1 : Int32) : Option (Int32) := bd1 (f_D_blocks NW bk) (fun (r_1 : Int32) => bd1 (f_L_firstBlock NW gB a1) (fun (r_3 : Int32) => some (if (r_1 - r_3) < gB then (r_1 - r_3) else gB)))
def f_L_groupInodes (NW : Nat) (gI : Int32) : Option (Int32) := some (gI)
def f_L_described (NW : Nat) (sz : Int32) (wd : Nat → Int64) (a1 : Int32) (a2 : Int32) (a3 : Int32) : Option (Int64) := bd1 (f_D_number NW sz wd (Int32.toInt64 ((((2048 : Int32)) + (((32 : Int32)) * a1)) + a2)) a3) (fun (r_1 : Int64) => some (r_1))
def f_L_setMap (NW : Nat) (mb : Nat → Int32) (a1 : Int32) (a2 : Int32) : Option ((Nat → Int32)) := (if a1 < 0 then some (mb) else (if ((8 : Int32)) ≤ a1 then some (mb) else if oob a1 8 then none else lt1 (upd mb (Int32.toNatClampNeg a1) a2) (fun (mb_4 : Nat → Int32) => some (mb_4))))
def f_L_groupOf (NW : Nat) (gI : Int32) (a1 : Int32) : Option (Int32) := (if a1 < ((1 : Int32)) then some ((-1 : Int32)) else (if gI ≤ 0 then some ((-1 : Int32)) else if gI = 0 then none else some ((a1 - ((1 : Int32))) / gI)))
def f_L_isUsed (NW : Nat) (sz : Int32) (wd : Nat → Int64) (mb : Nat → Int32) (gI : Int32) (a1 : Int32) : Option (Int32) := bd1 (f_L_groupOf NW gI a1) (fun (r_1 : Int32) => (if r_1 < 0 then some ((0 : Int32)) else (if r_1 < ((8 : Int32)) then lt1 ((a1 - ((1 : Int32))) - (r_1 * gI)) (fun (v3_5 : Int32) => if oob r_1 8 then none else bd1 (f_D_number NW sz wd ((((1024 : Int64)) * (Int32.toInt64 ((mb (Int32.toNatClampNeg r_1)) + ((1 : Int32))))) + (Int32.toInt64 (v3_5 / ((8 : Int32))))) ((1 : Int32))) (fun (r_7 : Int64) => (if ((r_7 >>> ((Int32.toInt64 (v3_5 - v3_5 / ((8 : Int32)) * ((8 : Int32)))) &&& 63)) &&& ((1 : Int64))) = ((0 : Int64)) then some ((0 : Int32)) else some ((1 : Int32))))) else some ((0 : Int32)))))
def f_L_inodePlace (NW : Nat) (mb : Nat → Int32) (gI : Int32) (a1 : Int32) : Option (Int64) := (if a1 < ((1 : Int32)) then some ((-1024 : Int64)) else (if ((1 : Int32)) ≤ gI then if gI = 0 then none else lt1 ((a1 - ((1 : Int32))) / gI) (fun (v2_4 : Int32) => (if v2_4 < ((8 : Int32)) then if oob v2_4 8 then none else some ((((1024 : Int64)) * (Int32.toInt64 ((mb (Int32.toNatClampNeg v2_4)) + ((2 : Int32))))) + (Int32.toInt64 (((128 : Int32)) * ((a1 - ((1 : Int32))) - (v2_4 * gI))))) else some ((-1024 : Int64)))) else some ((-1024 : Int64))))
def f_L_typeOf (NW : Nat) (sz : Int32) (wd : Nat → Int64) (mb : Nat → Int32) (gI : Int32) (a1 : Int32) : Option (Int32) := bd1 (f_L_inodePlace NW mb gI a1) (fun (r_1 : Int64) => bd1 (f_D_number NW sz wd r_1 ((2 : Int32))) (fun (r_3 : Int64) => some ((Int64.toInt32 r_3) &&& ((61440 : Int32)))))
def f_L_sizeOf (NW : Nat) (sz : Int32) (wd : Nat → Int64) (mb : Nat → Int32) (gI : Int32) (a1 : Int32) : Option (Int64) := bd1 (f_L_inodePlace NW mb gI a1) (fun (r_1 : Int64) => bd1 (f_D_number NW sz wd (r_1 + ((4 : Int64))) ((4 : Int32))) (fun (r_3 : Int64) => some (r_3)))
def f_L_blocksFor (NW : Nat)  (a1 : Int64) : Option (Int32) := some (Int64.toInt32 (((a1 + ((1024 : Int64))) - ((1 : Int64))) / ((1024 : Int64))))
def f_L_field (NW : Nat) (sz : Int32) (wd : Nat → Int64) (mb : Nat → Int32) (gI : Int32) (a1 : Int32) (a2 : Int32) (a3 : Int32) : Option (Int64) := bd1 (f_L_inodePlace NW mb gI a1) (fun (r_1 : Int64) => bd1 (f_D_number NW sz wd (r_1 + (Int32.toInt64 a2)) a3) (fun (r_3 : Int64) => some (r_3)))
def f_L_blockOf (NW : Nat) (sz : Int32) (wd : Nat → Int64) (mb : Nat → Int32) (gI : Int32) (a1 : Int32) (a2 : Int32) : Option (Int64) := bd1 (f_L_inodePlace NW mb gI a1) (fun (r_1 : Int64) => (if ((12 : Int32)) ≤ a2 then (if ((268 : Int32)) ≤ a2 then lt1 (a2 - ((268 : Int32))) (fun (v5_5 : Int32) => bd1 (f_D_number NW sz wd (r_1 + ((92 : Int64))) ((4 : Int32))) (fun (r_6 : Int64) => lt1 (((1024 : Int64)) * r_6) (fun (v6_8 : Int64) => bd1 (f_D_number NW sz wd (v6_8 + (Int32.toInt64 (((4 : Int32)) * (v5_5 / ((256 : Int32)))))) ((4 : Int32))) (fun (r_9 : Int64) => lt1 (((1024 : Int64)) * r_9) (fun (v8_11 : Int64) => bd1 (f_D_number NW sz wd (v8_11 + (Int32.toInt64 (((4 : Int32)) * (v5_5 - v5_5 / ((256 : Int32)) * ((256 : Int32)))))) ((4 : Int32))) (fun (r_12 : Int64) => some (r_12))))))) else bd1 (f_D_number NW sz wd (r_1 + ((88 : Int64))) ((4 : Int32))) (fun (r_14 : Int64) => bd1 (f_D_number NW sz wd ((((1024 : Int64)) * r_14) + (Int32.toInt64 (((4 : Int32)) * (a2 - ((12 : Int32)))))) ((4 : Int32))) (fun (r_16 : Int64) => some (r_16)))) else bd1 (f_D_number NW sz wd ((r_1 + ((40 : Int64))) + (Int32.toInt64 (((4 : Int32)) * a2))) ((4 : Int32))) (fun (r_18 : Int64) => some (r_18))))
def f_L_isInode (NW : Nat) (iN : Int32) (a1 : Int64) : Option (Int32) := (if a1 < ((1 : Int64)) then some ((0 : Int32)) else (if (Int32.toInt64 iN) < a1 then some ((0 : Int32)) else some ((1 : Int32))))
def f_L_blockMap (NW : Nat) (mb : Nat → Int32) (a1 : Int32) : Option (Int64) := (if a1 < 0 then some ((-1024 : Int64)) else (if ((8 : Int32)) ≤ a1 then some ((-1024 : Int64)) else if oob a1 8 then none else some (((1024 : Int64)) * (Int32.toInt64 (mb (Int32.toNatClampNeg a1))))))
def f_L_inodeMap (NW : Nat) (mb : Nat → Int32) (a1 : Int32) : Option (Int64) := bd1 (f_L_blockMap NW mb a1) (fun (r_1 : Int64) => some (r_1 + ((1024 : Int64))))
end
section
set_option maxHeartbeats 4000000 in
set_option maxRecDepth 100000 in
theorem c_L_readGroups {l : Launch} {dC : Nat → ClassId} {dI : Nat → Nat → Nat} {h : Nat → Nat} {cI : ClassId} {cL : ClassId} {NW : Nat} {bk : Int32} {sz : Int32} {wd : Nat → Int64} {mb : Nat → Int32} {gB : Int32} {gI : Int32} {gN : Int32} {iN : Int32} {dr : Int32} {es : Int64} {of : Int64} {od : Int32} {pl : Int64} {hd : Int64} {tk : Nat → Int32} {kn : Nat → Int32} {li : Nat → Int32} {pa : Nat → Int32} {ins : Nat → Int32} {cm : Int32} {fd : Int32} {hr : Int32} {hs : Nat} {r : Int32} {gB' : Int32} {gI' : Int32} {gN' : Int32} {iN' : Int32} (hf : f_L_readGroups NW bk sz wd gB gI gN iN = some (r, gB', gI', gN', iN')) : Met l y_L_readGroups ws_L_readGroups { frames := 1, cells := 0, slots := 0, locals := 27 } (PcU (dC, dI) clAll [(cI, .int), (cL, .long)] (wC h cI cL NW bk sz wd mb gB gI gN iN dr es of od pl hd tk kn li pa ins cm fd hr) hs [.ref (h 3)]) (QUi (dC, dI) clAll [(cI, .int), (cL, .long)] (wC h cI cL NW bk sz wd mb gB gI gN iN dr es of od pl hd tk kn li pa ins cm fd hr) (wC h cI cL NW bk sz wd mb gB' gI' gN' iN' dr es of od pl hd tk kn li pa ins cm fd hr) hs r) 0 0 (va_A (wC h cI cL NW bk sz wd mb gB gI gN iN dr es of od pl hd tk kn li pa ins cm fd hr) hs) := by
  refine mUz (cc := b_L_readGroups) (maxL := 5) (by decide) rfl (Nat.le_of_ble_eq_true rfl) ?_
  intro p e s m args below meth c Q hx hb hml hts hown A hA hK hP hD hS hret ls hl
  have htb : ∀ w ∈ TB, w.before args s = true := fun w h => hts w (List.mem_cons_of_mem _ h)
  have hl : lv_has ls 5 [(0, .ref (h 3))] := hl
  have hj_50 : ∀ (gB : Int32) (gI : Int32) (gN : Int32) (iN : Int32) (x1 : Int64) (x3 : Int64) (H : Heap) (locs : List Loc) (ls : Array Slot), f_L_readGroups_50 NW bk sz wd gB gI gN iN x1 x3 = some (r, gB', gI', gN', iN') → va_P (dC, dI) clAll (wC h cI cL NW bk sz wd mb gB gI gN iN dr es of od pl hd tk kn li pa ins cm fd hr) H → va_D A (wC h cI cL NW bk sz wd mb gB gI gN iN dr es of od pl hd tk kn li pa ins cm fd hr) → va_S A s.heap H locs → lv_has ls 5 [(0, .ref (h 3)), (1, .long x1), (3, .long x3)] → W p l e (headSpec ws_L_readGroups { frames := 1, cells := 0, slots := 0, locals := 27 }).room s m args below meth c H locs 0 0 Q (F0 m 50 ls []) := by
    intro gB gI gN iN x1 x3 H locs ls hf hP hD hS hl
    unfold f_L_readGroups_50 at hf
    refine lv_lload_n hx hb d_L_readGroups_50 rfl (lv_at hl 2 rfl) ?_
    refine lv_ldc2 (v := 8) hx hb hown (htb _ tw_294) d_L_readGroups_51 ?_
    refine lc_lt (tgt := 76) hx hb d_L_readGroups_54 d_L_readGroups_55 (by decide) (fun c_1 => ?_) (fun c_1 => ?_)
    · have hf := ite_t c_1 hf
      refine lv_iconst (v := 0) hx hb d_L_readGroups_76 (by decide) ?_
      cases hf
      exact hret _ _ _ _ (Or.inl rfl) hP hD hS d_L_readGroups_77
    · have hf := ite_f c_1 hf
      refine lv_lload_n hx hb d_L_readGroups_58 rfl (lv_at hl 2 rfl) ?_
      refine lv_ldc2 (v := 8192) hx hb hown (htb _ tw_295) d_L_readGroups_59 ?_
      refine lc_gt (tgt := 76) hx hb d_L_readGroups_62 d_L_readGroups_63 (by decide) (fun c_2 => ?_) (fun c_2 => ?_)
      · have hf := ite_t c_2 hf
        refine lv_iconst (v := 0) hx hb d_L_readGroups_76 (by decide) ?_
        cases hf
        exact hret _ _ _ _ (Or.inl rfl) hP hD hS d_L_readGroups_77
      · have hf := ite_f c_2 hf
        refine lv_lload_n hx hb d_L_readGroups_66 rfl (lv_at hl 2 rfl) ?_
        refine lv_ldc2 (v := 8) hx hb hown (htb _ tw_294) d_L_readGroups_67 ?_
        refine lv_lrem hx hb d_L_readGroups_70 (by decide) ?_
        refine lv_lconst (v := 0) hx hb d_L_readGroups_71 (by decide) ?_
        refine lc_eq (tgt := 78) hx hb d_L_readGroups_72 d_L_readGroups_73 (by decide) (fun c_3 => ?_) (fun c_3 => ?_)
        · have hf := ite_t c_3 hf
          refine lv_aload_n hx hb d_L_readGroups_78 rfl (lv_at hl 0 rfl) ?_
          refine lv_lload_n hx hb d_L_readGroups_79 rfl (lv_at hl 1 rfl) ?_
          refine lv_l2i hx hb d_L_readGroups_80 rfl ?_
          refine va_put (D := (dC, dI)) (ci := 2) (v := .int (Int64.toInt32 x1)) (ty := .int) (C := R_L) (T := T_L) (N := 6) hx hb htb in_L ty_L tyok_L nm_L hown hK hP hD hS 3 rfl rfl 2 (by decide) (htb _ tw_121) (fun _ h9 => h9) rfl (by decide +kernel) rfl rfl (Nat.le_of_ble_eq_true rfl) d_L_readGroups_81 (fun H locs hP hD hS => ?_)
          have hP : va_P (dC, dI) clAll (wC h cI cL NW bk sz wd mb (Int64.toInt32 x1) gI gN iN dr es of od pl hd tk kn li pa ins cm fd hr) H := hP
          have hD : va_D A (wC h cI cL NW bk sz wd mb (Int64.toInt32 x1) gI gN iN dr es of od pl hd tk kn li pa ins cm fd hr) := hD
          refine lv_aload_n hx hb d_L_readGroups_84 rfl (lv_at hl 0 rfl) ?_
          refine lv_lload_n hx hb d_L_readGroups_85 rfl (lv_at hl 2 rfl) ?_
          refine lv_l2i hx hb d_L_readGroups_86 rfl ?_
          refine va_put (D := (dC, dI)) (ci := 2) (v := .int (Int64.toInt32 x3)) (ty := .int) (C := R_L) (T := T_L) (N := 6) hx hb htb in_L ty_L tyok_L nm_L hown hK hP hD hS 3 rfl rfl 3 (by decide) (htb _ tw_122) (fun _ h9 => h9) rfl (by decide +kernel) rfl rfl (Nat.le_of_ble_eq_true rfl) d_L_readGroups_87 (fun H locs hP hD hS => ?_)
          have hP : va_P (dC, dI) clAll (wC h cI cL NW bk sz wd mb (Int64.toInt32 x1) (Int64.toInt32 x3) gN iN dr es of od pl hd tk kn li pa ins cm fd hr) H := hP
          have hD : va_D A (wC h cI cL NW bk sz wd mb (Int64.toInt32 x1) (Int64.toInt32 x3) gN iN dr es of od pl hd tk kn li pa ins cm fd hr) := hD
          refine lv_aload_n hx hb d_L_readGroups_90 rfl (lv_at hl 0 rfl) ?_
          refine lv_aload_n hx hb d_L_readGroups_91 rfl (lv_at hl 0 rfl) ?_
          refine va_get (D := (dC, dI)) (ci := 2) (v := .ref (h 1)) (C := R_L) (T := T_L) (N := 6) hx hb htb in_L hown hK hP 3 rfl rfl 0 (by decide) (htb _ tw_119) (fun _ h9 => h9) rfl d_L_readGroups_92 ?_
          obtain ⟨r_4, hc_5, hf⟩ := bd1_s hf
          refine ucVi (As := []) (rest := [.ref (h 3)]) ⟨hx, hb, hml, hown, htb⟩ hK hP hD hS hA (fun hs => c_D_blocks hc_5) (cwV 0 htb (gV tw_296 tw_297 tw_298 tw_69 tw_299) rfl rfl rfl (by decide +kernel) ⟨Nat.le_of_ble_eq_true rfl, Nat.le_of_ble_eq_true rfl⟩) 1 0 rfl rfl rfl rfl rfl hl.1 (Nat.le_of_ble_eq_true rfl) d_L_readGroups_95 ⟨Nat.zero_le _, Nat.zero_le _⟩ (fun H locs hP hD hS => ?_)
          refine lv_iconst (v := 1) hx hb d_L_readGroups_98 (by decide) ?_
          refine lv_isub hx hb d_L_readGroups_99 ?_
          refine lv_aload_n hx hb d_L_readGroups_100 rfl (lv_at hl 0 rfl) ?_
          refine va_get (D := (dC, dI)) (ci := 2) (v := .int (Int64.toInt32 x1)) (C := R_L) (T := T_L) (N := 6) hx hb htb in_L hown hK hP 3 rfl rfl 2 (by decide) (htb _ tw_121) (fun _ h9 => h9) rfl d_L_readGroups_101 ?_
          refine lv_iadd hx hb d_L_readGroups_104 ?_
          refine lv_iconst (v := 1) hx hb d_L_readGroups_105 (by decide) ?_
          refine lv_isub hx hb d_L_readGroups_106 ?_
          refine lv_aload_n hx hb d_L_readGroups_107 rfl (lv_at hl 0 rfl) ?_
          refine va_get (D := (dC, dI)) (ci := 2) (v := .int (Int64.toInt32 x1)) (C := R_L) (T := T_L) (N := 6) hx hb htb in_L hown hK hP 3 rfl rfl 2 (by decide) (htb _ tw_121) (fun _ h9 => h9) rfl d_L_readGroups_108 ?_
          obtain ⟨c_6, hf⟩ := gd_s hf
          refine lv_idiv hx hb d_L_readGroups_111 c_6 ?_
          refine va_put (D := (dC, dI)) (ci := 2) (v := .int ((((r_4 - ((1 : Int32))) + (Int64.toInt32 x1)) - ((1 : Int32))) / (Int64.toInt32 x1))) (ty := .int) (C := R_L) (T := T_L) (N := 6) hx hb htb in_L ty_L tyok_L nm_L hown hK hP hD hS 3 rfl rfl 4 (by decide) (htb _ tw_123) (fun _ h9 => h9) rfl (by decide +kernel) rfl rfl (Nat.le_of_ble_eq_true rfl) d_L_readGroups_112 (fun H locs hP hD hS => ?_)
          have hP : va_P (dC, dI) clAll (wC h cI cL NW bk sz wd mb (Int64.toInt32 x1) (Int64.toInt32 x3) ((((r_4 - ((1 : Int32))) + (Int64.toInt32 x1)) - ((1 : Int32))) / (Int64.toInt32 x1)) iN dr es of od pl hd tk kn li pa ins cm fd hr) H := hP
          have hD : va_D A (wC h cI cL NW bk sz wd mb (Int64.toInt32 x1) (Int64.toInt32 x3) ((((r_4 - ((1 : Int32))) + (Int64.toInt32 x1)) - ((1 : Int32))) / (Int64.toInt32 x1)) iN dr es of od pl hd tk kn li pa ins cm fd hr) := hD
          refine lv_aload_n hx hb d_L_readGroups_115 rfl (lv_at hl 0 rfl) ?_
          refine lv_aload_n hx hb d_L_readGroups_116 rfl (lv_at hl 0 rfl) ?_
          refine va_get (D := (dC, dI)) (ci := 2) (v := .int ((((r_4 - ((1 : Int32))) + (Int64.toInt32 x1)) - ((1 : Int32))) / (Int64.toInt32 x1))) (C := R_L) (T := T_L) (N := 6) hx hb htb in_L hown hK hP 3 rfl rfl 4 (by decide) (htb _ tw_123) (fun _ h9 => h9) rfl d_L_readGroups_117 ?_
          refine lv_aload_n hx hb d_L_readGroups_120 rfl (lv_at hl 0 rfl) ?_
          refine va_get (D := (dC, dI)) (ci := 2) (v := .int (Int64.toInt32 x3)) (C := R_L) (T := T_L) (N := 6) hx hb htb in_L hown hK hP 3 rfl rfl 3 (by decide) (htb _ tw_122) (fun _ h9 => h9) rfl d_L_readGroups_121 ?_
          refine lv_imul hx hb d_L_readGroups_124 ?_
          refine va_put (D := (dC, dI)) (ci := 2) (v := .int (((((r_4 - ((1 : Int32))) + (Int64.toInt32 x1)) - ((1 : Int32))) / (Int64.toInt32 x1)) * (Int64.toInt32 x3))) (ty := .int) (C := R_L) (T := T_L) (N := 6) hx hb htb in_L ty_L tyok_L nm_L hown hK hP hD hS 3 rfl rfl 5 (by decide) (htb _ tw_124) (fun _ h9 => h9) rfl (by decide +kernel) rfl rfl (Nat.le_of_ble_eq_true rfl) d_L_readGroups_125 (fun H locs hP hD hS => ?_)
          have hP : va_P (dC, dI) clAll (wC h cI cL NW bk sz wd mb (Int64.toInt32 x1) (Int64.toInt32 x3) ((((r_4 - ((1 : Int32))) + (Int64.toInt32 x1)) - ((1 : Int32))) / (Int64.toInt32 x1)) (((((r_4 - ((1 : Int32))) + (Int64.toInt32 x1)) - ((1 : Int32))) / (Int64.toInt32 x1)) * (Int64.toInt32 x3)) dr es of od pl hd tk kn li pa ins cm fd hr) H := hP
          have hD : va_D A (wC h cI cL NW bk sz wd mb (Int64.toInt32 x1) (Int64.toInt32 x3) ((((r_4 - ((1 : Int32))) + (Int64.toInt32 x1)) - ((1 : Int32))) / (Int64.toInt32 x1)) (((((r_4 - ((1 : Int32))) + (Int64.toInt32 x1)) - ((1 : Int32))) / (Int64.toInt32 x1)) * (Int64.toInt32 x3)) dr es of od pl hd tk kn li pa ins cm fd hr) := hD
          refine lv_iconst (v := 1) hx hb d_L_readGroups_128 (by decide) ?_
          cases hf
          exact hret _ _ _ _ (Or.inr rfl) hP hD hS d_L_readGroups_129
        · have hf := ite_f c_3 hf
          refine lv_iconst (v := 0) hx hb d_L_readGroups_76 (by decide) ?_
          cases hf
          exact hret _ _ _ _ (Or.inl rfl) hP hD hS d_L_readGroups_77
  unfold f_L_readGroups at hf
  refine lv_aload_n hx hb d_L_readGroups_0 rfl (lv_at hl 0 rfl) ?_
  refine va_get (D := (dC, dI)) (ci := 2) (v := .ref (h 1)) (C := R_L) (T := T_L) (N := 6) hx hb htb in_L hown hK hP 3 rfl rfl 0 (by decide) (htb _ tw_119) (fun _ h9 => h9) rfl d_L_readGroups_1 ?_
  refine lv_ldc2 (v := 1056) hx hb hown (htb _ tw_288) d_L_readGroups_4 ?_
  refine lv_iconst (v := 4) hx hb d_L_readGroups_7 (by decide) ?_
  obtain ⟨r_1, hc_2, hf⟩ := bd1_s hf
  refine ucVl (As := [.long ((1056 : Int64)), .int ((4 : Int32))]) (rest := []) ⟨hx, hb, hml, hown, htb⟩ hK hP hD hS hA (fun hs => c_D_number hc_2) (cwV 2 htb (gV tw_289 tw_264 tw_265 tw_69 tw_266) rfl rfl rfl (by decide +kernel) ⟨Nat.le_of_ble_eq_true rfl, Nat.le_of_ble_eq_true rfl⟩) 1 0 rfl rfl rfl rfl rfl hl.1 (Nat.le_of_ble_eq_true rfl) d_L_readGroups_8 ⟨Nat.zero_le _, Nat.zero_le _⟩ (fun H locs hP hD hS => ?_)
  refine lv_lstore_n (lv' := [(1, .long r_1), (0, .ref (h 3))]) hx hb d_L_readGroups_11 rfl hl (by decide) rfl (fun ls hl => ?_)
  refine lv_aload_n hx hb d_L_readGroups_12 rfl (lv_at hl 1 rfl) ?_
  refine va_get (D := (dC, dI)) (ci := 2) (v := .ref (h 1)) (C := R_L) (T := T_L) (N := 6) hx hb htb in_L hown hK hP 3 rfl rfl 0 (by decide) (htb _ tw_119) (fun _ h9 => h9) rfl d_L_readGroups_13 ?_
  refine lv_ldc2 (v := 1064) hx hb hown (htb _ tw_290) d_L_readGroups_16 ?_
  refine lv_iconst (v := 4) hx hb d_L_readGroups_19 (by decide) ?_
  obtain ⟨r_3, hc_4, hf⟩ := bd1_s hf
  refine ucVl (As := [.long ((1064 : Int64)), .int ((4 : Int32))]) (rest := []) ⟨hx, hb, hml, hown, htb⟩ hK hP hD hS hA (fun hs => c_D_number hc_4) (cwV 2 htb (gV tw_289 tw_264 tw_265 tw_69 tw_266) rfl rfl rfl (by decide +kernel) ⟨Nat.le_of_ble_eq_true rfl, Nat.le_of_ble_eq_true rfl⟩) 1 0 rfl rfl rfl rfl rfl hl.1 (Nat.le_of_ble_eq_true rfl) d_L_readGroups_20 ⟨Nat.zero_le _, Nat.zero_le _⟩ (fun H locs hP hD hS => ?_)
  refine lv_lstore_n (lv' := [(3, .long r_3), (1, .long r_1), (0, .ref (h 3))]) hx hb d_L_readGroups_23 rfl hl (by decide) rfl (fun ls hl => ?_)
  refine lv_lload_n hx hb d_L_readGroups_24 rfl (lv_at hl 1 rfl) ?_
  refine lv_ldc2 (v := 64) hx hb hown (htb _ tw_291) d_L_readGroups_25 ?_
  refine lc_eq (tgt := 50) hx hb d_L_readGroups_28 d_L_readGroups_29 (by decide) (fun c_5 => ?_) (fun c_5 => ?_)
  · have hf := ite_t c_5 hf
    exact hj_50 gB gI gN iN r_1 r_3 _ _ _ hf hP hD hS (lv_sub hl [2, 1, 0] rfl)
  · have hf := ite_f c_5 hf
    refine lv_lload_n hx hb d_L_readGroups_32 rfl (lv_at hl 1 rfl) ?_
    refine lv_ldc2 (v := 128) hx hb hown (htb _ tw_292) d_L_readGroups_33 ?_
    refine lc_eq (tgt := 50) hx hb d_L_readGroups_36 d_L_readGroups_37 (by decide) (fun c_6 => ?_) (fun c_6 => ?_)
    · have hf := ite_t c_6 hf
      exact hj_50 gB gI gN iN r_1 r_3 _ _ _ hf hP hD hS (lv_sub hl [2, 1, 0] rfl)
    · have hf := ite_f c_6 hf
      refine lv_lload_n hx hb d_L_readGroups_40 rfl (lv_at hl 1 rfl) ?_
      refine lv_ldc2 (v := 256) hx hb hown (htb _ tw_293) d_L_readGroups_41 ?_
      refine lc_eq (tgt := 50) hx hb d_L_readGroups_44 d_L_readGroups_45 (by decide) (fun c_7 => ?_) (fun c_7 => ?_)
      · have hf := ite_t c_7 hf
        exact hj_50 gB gI gN iN r_1 r_3 _ _ _ hf hP hD hS (lv_sub hl [2, 1, 0] rfl)
      · have hf := ite_f c_7 hf
        refine lv_iconst (v := 0) hx hb d_L_readGroups_48 (by decide) ?_
        cases hf
        exact hret _ _ _ _ (Or.inl rfl) hP hD hS d_L_readGroups_49
set_option maxHeartbeats 4000000 in
set_option maxRecDepth 100000 in
theorem c_L_inodes {l : Launch} {dC : Nat → ClassId} {dI : Nat → Nat → Nat} {h : Nat → Nat} {cI : ClassId} {cL : ClassId} {NW : Nat} {bk : Int32} {sz : Int32} {wd : Nat → Int64} {mb : Nat → Int32} {gB : Int32} {gI : Int32} {gN : Int32} {iN : Int32} {dr : Int32} {es : Int64} {of : Int64} {od : Int32} {pl : Int64} {hd : Int64} {tk : Nat → Int32} {kn : Nat → Int32} {li : Nat → Int32} {pa : Nat → Int32} {ins : Nat → Int32} {cm : Int32} {fd : Int32} {hr : Int32} {hs : Nat} {r : Int32} (hf : f_L_inodes NW iN = some (r)) : Met l y_L_inodes ws_L_inodes { frames := 0, cells := 0, slots := 0, locals := 0 } (PcU (dC, dI) clAll [(cI, .int), (cL, .long)] (wC h cI cL NW bk sz wd mb gB gI gN iN dr es of od pl hd tk kn li pa ins cm fd hr) hs [.ref (h 3)]) (QUi (dC, dI) clAll [(cI, .int), (cL, .long)] (wC h cI cL NW bk sz wd mb gB gI gN iN dr es of od pl hd tk kn li pa ins cm fd hr) (wC h cI cL NW bk sz wd mb gB gI gN iN dr es of od pl hd tk kn li pa ins cm fd hr) hs r) 0 0 (va_A (wC h cI cL NW bk sz wd mb gB gI gN iN dr es of od pl hd tk kn li pa ins cm fd hr) hs) := by
  refine mUi (cc := b_L_inodes) (maxL := 1) (by decide) rfl (Nat.le_of_ble_eq_true rfl) ?_
  intro p e s m args below meth c Q hx hb hml hts hown A hA hK hP hD hS hret ls hl
  have htb : ∀ w ∈ TB, w.before args s = true := fun w h => hts w (List.mem_cons_of_mem _ h)
  have hl : lv_has ls 1 [(0, .ref (h 3))] := hl
  unfold f_L_inodes at hf
  refine lv_aload_n hx hb d_L_inodes_0 rfl (lv_at hl 0 rfl) ?_
  refine va_get (D := (dC, dI)) (ci := 2) (v := .int iN) (C := R_L) (T := T_L) (N := 6) hx hb htb in_L hown hK hP 3 rfl rfl 5 (by decide) (htb _ tw_124) (fun _ h9 => h9) rfl d_L_inodes_1 ?_
  cases hf
  exact hret _ _ _ _ hP hD hS d_L_inodes_4
set_option maxHeartbeats 4000000 in
set_option maxRecDepth 100000 in
theorem c_L_groupBlocks {l : Launch} {dC : Nat → ClassId} {dI : Nat → Nat → Nat} {h : Nat → Nat} {cI : ClassId} {cL : ClassId} {NW : Nat} {bk : Int32} {sz : Int32} {wd : Nat → Int64} {mb : Nat → Int32} {gB : Int32} {gI : Int32} {gN : Int32} {iN : Int32} {dr : Int32} {es : Int64} {of : Int64} {od : Int32} {pl : Int64} {hd : Int64} {tk : Nat → Int32} {kn : Nat → Int32} {li : Nat → Int32} {pa : Nat → Int32} {ins : Nat → Int32} {cm : Int32} {fd : Int32} {hr : Int32} {hs : Nat} {r : Int32} (hf : f_L_groupBlocks NW gB = some (r)) : Met l y_L_groupBlocks ws_L_groupBlocks { frames := 0, cells := 0, slots := 0, locals := 0 } (PcU (dC, dI) clAll [(cI, .int), (cL, .long)] (wC h cI cL NW bk sz wd mb gB gI gN iN dr es of od pl hd tk kn li pa ins cm fd hr) hs [.ref (h 3)]) (QUi (dC, dI) clAll [(cI, .int), (cL, .long)] (wC h cI cL NW bk sz wd mb gB gI gN iN dr es of od pl hd tk kn li pa ins cm fd hr) (wC h cI cL NW bk sz wd mb gB gI gN iN dr es of od pl hd tk kn li pa ins cm fd hr) hs r) 0 0 (va_A (wC h cI cL NW bk sz wd mb gB gI gN iN dr es of od pl hd tk kn li pa ins cm fd hr) hs) := by
  refine mUi (cc := b_L_groupBlocks) (maxL := 1) (by decide) rfl (Nat.le_of_ble_eq_true rfl) ?_
  intro p e s m args below meth c Q hx hb hml hts hown A hA hK hP hD hS hret ls hl
  have htb : ∀ w ∈ TB, w.before args s = true := fun w h => hts w (List.mem_cons_of_mem _ h)
  have hl : lv_has ls 1 [(0, .ref (h 3))] := hl
  unfold f_L_groupBlocks at hf
  refine lv_aload_n hx hb d_L_groupBlocks_0 rfl (lv_at hl 0 rfl) ?_
  refine va_get (D := (dC, dI)) (ci := 2) (v := .int gB) (C := R_L) (T := T_L) (N := 6) hx hb htb in_L hown hK hP 3 rfl rfl 2 (by decide) (htb _ tw_121) (fun _ h9 => h9) rfl d_L_groupBlocks_1 ?_
  cases hf
  exact hret _ _ _ _ hP hD hS d_L_groupBlocks_4
set_option maxHeartbeats 4000000 in
set_option maxRecDepth 100000 in
theorem c_L_groups {l : Launch} {dC : Nat → ClassId} {dI : Nat → Nat → Nat} {h : Nat → Nat} {cI : ClassId} {cL : ClassId} {NW : Nat} {bk : Int32} {sz : Int32} {wd : Nat → Int64} {mb : Nat → Int32} {gB : Int32} {gI : Int32} {gN : Int32} {iN : Int32} {dr : Int32} {es : Int64} {of : Int64} {od : Int32} {pl : Int64} {hd : Int64} {tk : Nat → Int32} {kn : Nat → Int32} {li : Nat → Int32} {pa : Nat → Int32} {ins : Nat → Int32} {cm : Int32} {fd : Int32} {hr : Int32} {hs : Nat} {r : Int32} (hf : f_L_groups NW gN = some (r)) : Met l y_L_groups ws_L_groups { frames := 0, cells := 0, slots := 0, locals := 0 } (PcU (dC, dI) clAll [(cI, .int), (cL, .long)] (wC h cI cL NW bk sz wd mb gB gI gN iN dr es of od pl hd tk kn li pa ins cm fd hr) hs [.ref (h 3)]) (QUi (dC, dI) clAll [(cI, .int), (cL, .long)] (wC h cI cL NW bk sz wd mb gB gI gN iN dr es of od pl hd tk kn li pa ins cm fd hr) (wC h cI cL NW bk sz wd mb gB gI gN iN dr es of od pl hd tk kn li pa ins cm fd hr) hs r) 0 0 (va_A (wC h cI cL NW bk sz wd mb gB gI gN iN dr es of od pl hd tk kn li pa ins cm fd hr) hs) := by
  refine mUi (cc := b_L_groups) (maxL := 1) (by decide) rfl (Nat.le_of_ble_eq_true rfl) ?_
  intro p e s m args below meth c Q hx hb hml hts hown A hA hK hP hD hS hret ls hl
  have htb : ∀ w ∈ TB, w.before args s = true := fun w h => hts w (List.mem_cons_of_mem _ h)
  have hl : lv_has ls 1 [(0, .ref (h 3))] := hl
  unfold f_L_groups at hf
  refine lv_aload_n hx hb d_L_groups_0 rfl (lv_at hl 0 rfl) ?_
  refine va_get (D := (dC, dI)) (ci := 2) (v := .int gN) (C := R_L) (T := T_L) (N := 6) hx hb htb in_L hown hK hP 3 rfl rfl 4 (by decide) (htb _ tw_123) (fun _ h9 => h9) rfl d_L_groups_1 ?_
  cases hf
  exact hret _ _ _ _ hP hD hS d_L_groups_4
set_option maxHeartbeats 4000000 in
set_option maxRecDepth 100000 in
theorem c_L_firstBlock {l : Launch} {dC : Nat → ClassId} {dI : Nat → Nat → Nat} {h : Nat → Nat} {cI : ClassId} {cL : ClassId} {NW : Nat} {bk : Int32} {sz : Int32} {wd : Nat → Int64} {mb : Nat → Int32} {gB : Int32} {gI : Int32} {gN : Int32} {iN : Int32} {dr : Int32} {es : Int64} {of : Int64} {od : Int32} {pl : Int64} {hd : Int64} {tk : Nat → Int32} {kn : Nat → Int32} {li : Nat → Int32} {pa : Nat → Int32} {ins : Nat → Int32} {cm : Int32} {fd : Int32} {hr : Int32} {hs : Nat} {a1 : Int32} {r : Int32} (hf : f_L_firstBlock NW gB a1 = some (r)) : Met l y_L_firstBlock ws_L_firstBlock { frames := 0, cells := 0, slots := 0, locals := 0 } (PcU (dC, dI) clAll [(cI, .int), (cL, .long)] (wC h cI cL NW bk sz wd mb gB gI gN iN dr es of od pl hd tk kn li pa ins cm fd hr) hs [.ref (h 3), .int a1]) (QUi (dC, dI) clAll [(cI, .int), (cL, .long)] (wC h cI cL NW bk sz wd mb gB gI gN iN dr es of od pl hd tk kn li pa ins cm fd hr) (wC h cI cL NW bk sz wd mb gB gI gN iN dr es of od pl hd tk kn li pa ins cm fd hr) hs r) 0 0 (va_A (wC h cI cL NW bk sz wd mb gB gI gN iN dr es of od pl hd tk kn li pa ins cm fd hr) hs) := by
  refine mUi (cc := b_L_firstBlock) (maxL := 2) (by decide) rfl (Nat.le_of_ble_eq_true rfl) ?_
  intro p e s m args below meth c Q hx hb hml hts hown A hA hK hP hD hS hret ls hl
  have htb : ∀ w ∈ TB, w.before args s = true := fun w h => hts w (List.mem_cons_of_mem _ h)
  have hl : lv_has ls 2 [(0, .ref (h 3)), (1, .int a1)] := hl
  unfold f_L_firstBlock at hf
  refine lv_iconst (v := 1) hx hb d_L_firstBlock_0 (by decide) ?_
  refine lv_iload_n hx hb d_L_firstBlock_1 rfl (lv_at hl 1 rfl) ?_
  refine lv_aload_n hx hb d_L_firstBlock_2 rfl (lv_at hl 0 rfl) ?_
  refine va_get (D := (dC, dI)) (ci := 2) (v := .int gB) (C := R_L) (T := T_L) (N := 6) hx hb htb in_L hown hK hP 3 rfl rfl 2 (by decide) (htb _ tw_121) (fun _ h9 => h9) rfl d_L_firstBlock_3 ?_
  refine lv_imul hx hb d_L_firstBlock_6 ?_
  refine lv_iadd hx hb d_L_firstBlock_7 ?_
  cases hf
  exact hret _ _ _ _ hP hD hS d_L_firstBlock_8
set_option maxHeartbeats 4000000 in
set_option maxRecDepth 100000 in
theorem c_L_blocksOf {l : Launch} {dC : Nat → ClassId} {dI : Nat → Nat → Nat} {h : Nat → Nat} {cI : ClassId} {cL : ClassId} {NW : Nat} {bk : Int32} {sz : Int32} {wd : Nat → Int64} {mb : Nat → Int32} {gB : Int32} {gI : Int32} {gN : Int32} {iN : Int32} {dr : Int32} {es : Int64} {of : Int64} {od : Int32} {pl : Int64} {hd : Int64} {tk : Nat → Int32} {kn : Nat → Int32} {li : Nat → Int32} {pa : Nat → Int32} {ins : Nat → Int32} {cm : Int32} {fd : Int32} {hr : Int32} {hs : Nat} {a1 : Int32} {r : Int32} (hf : f_L_blocksOf NW bk gB a1 = some (r)) : Met l y_L_blocksOf ws_L_blocksOf { frames := 1, cells := 0, slots := 0, locals := 21 } (PcU (dC, dI) clAll [(cI, .int), (cL, .long)] (wC h cI cL NW bk sz wd mb gB gI gN iN dr es of od pl hd tk kn li pa ins cm fd hr) hs [.ref (h 3), .int a1]) (QUi (dC, dI) clAll [(cI, .int), (cL, .long)] (wC h cI cL NW bk sz wd mb gB gI gN iN dr es of od pl hd tk kn li pa ins cm fd hr) (wC h cI cL NW bk sz wd mb gB gI gN iN dr es of od pl hd tk kn li pa ins cm fd hr) hs r) 0 0 (va_A (wC h cI cL NW bk sz wd mb gB gI gN iN dr es of od pl hd tk kn li pa ins cm fd hr) hs) := by
  refine mUi (cc := b_L_blocksOf) (maxL := 2) (by decide) rfl (Nat.le_of_ble_eq_true rfl) ?_
  intro p e s m args below meth c Q hx hb hml hts hown A hA hK hP hD hS hret ls hl
  have htb : ∀ w ∈ TB, w.before args s = true := fun w h => hts w (List.mem_cons_of_mem _ h)
  have hl : lv_has ls 2 [(0, .ref (h 3)), (1, .int a1)] := hl
  unfold f_L_blocksOf at hf
  refine lv_aload_n hx hb d_L_blocksOf_0 rfl (lv_at hl 0 rfl) ?_
  refine va_get (D := (dC, dI)) (ci := 2) (v := .int gB) (C := R_L) (T := T_L) (N := 6) hx hb htb in_L hown hK hP 3 rfl rfl 2 (by decide) (htb _ tw_121) (fun _ h9 => h9) rfl d_L_blocksOf_1 ?_
  refine lv_aload_n hx hb d_L_blocksOf_4 rfl (lv_at hl 0 rfl) ?_
  refine va_get (D := (dC, dI)) (ci := 2) (v := .ref (h 1)) (C := R_L) (T := T_L) (N := 6) hx hb htb in_L hown hK hP 3 rfl rfl 0 (by decide) (htb _ tw_119) (fun _ h9 => h9) rfl d_L_blocksOf_5 ?_
  obtain ⟨r_1, hc_2, hf⟩ := bd1_s hf
  refine ucVi (As := []) (rest := [.int gB]) ⟨hx, hb, hml, hown, htb⟩ hK hP hD hS hA (fun hs => c_D_blocks hc_2) (cwV 0 htb (gV tw_296 tw_297 tw_298 tw_69 tw_299) rfl rfl rfl (by decide +kernel) ⟨Nat.le_of_ble_eq_true rfl, Nat.le_of_ble_eq_true rfl⟩) 1 0 rfl rfl rfl rfl rfl hl.1 (Nat.le_of_ble_eq_true rfl) d_L_blocksOf_8 ⟨Nat.zero_le _, Nat.zero_le _⟩ (fun H locs hP hD hS => ?_)
  refine lv_aload_n hx hb d_L_blocksOf_11 rfl (lv_at hl 0 rfl) ?_
  refine lv_iload_n hx hb d_L_blocksOf_12 rfl (lv_at hl 1 rfl) ?_
  obtain ⟨r_3, hc_4, hf⟩ := bd1_s hf
  refine ucVi (As := [.int a1]) (rest := [.int r_1, .int gB]) ⟨hx, hb, hml, hown, htb⟩ hK hP hD hS hA (fun hs => c_L_firstBlock hc_4) (cwV 1 htb (gV tw_330 tw_331 tw_332 tw_71 tw_333) rfl rfl rfl (by decide +kernel) ⟨Nat.le_of_ble_eq_true rfl, Nat.le_of_ble_eq_true rfl⟩) 3 2 rfl rfl rfl rfl rfl hl.1 (Nat.le_of_ble_eq_true rfl) d_L_blocksOf_13 ⟨Nat.zero_le _, Nat.zero_le _⟩ (fun H locs hP hD hS => ?_)
  refine lv_isub hx hb d_L_blocksOf_16 ?_
  refine va_mmin hx hb (hml.trans hl.1.symm) hown (htb _ tw_334) (htb _ tw_97) (htb _ tw_70) (htb _ tw_98) (Nat.le_of_ble_eq_true rfl) (Nat.le_of_ble_eq_true rfl) (Nat.zero_le _) (Nat.zero_le _) d_L_blocksOf_17 ?_
  cases hf
  exact hret _ _ _ _ hP hD hS d_L_blocksOf_20
set_option maxHeartbeats 4000000 in
set_option maxRecDepth 100000 in
theorem c_L_groupInodes {l : Launch} {dC : Nat → ClassId} {dI : Nat → Nat → Nat} {h : Nat → Nat} {cI : ClassId} {cL : ClassId} {NW : Nat} {bk : Int32} {sz : Int32} {wd : Nat → Int64} {mb : Nat → Int32} {gB : Int32} {gI : Int32} {gN : Int32} {iN : Int32} {dr : Int32} {es : Int64} {of : Int64} {od : Int32} {pl : Int64} {hd : Int64} {tk : Nat → Int32} {kn : Nat → Int32} {li : Nat → Int32} {pa : Nat → Int32} {ins : Nat → Int32} {cm : Int32} {fd : Int32} {hr : Int32} {hs : Nat} {r : Int32} (hf : f_L_groupInodes NW gI = some (r)) : Met l y_L_groupInodes ws_L_groupInodes { frames := 0, cells := 0, slots := 0, locals := 0 } (PcU (dC, dI) clAll [(cI, .int), (cL, .long)] (wC h cI cL NW bk sz wd mb gB gI gN iN dr es of od pl hd tk kn li pa ins cm fd hr) hs [.ref (h 3)]) (QUi (dC, dI) clAll [(cI, .int), (cL, .long)] (wC h cI cL NW bk sz wd mb gB gI gN iN dr es of od pl hd tk kn li pa ins cm fd hr) (wC h cI cL NW bk sz wd mb gB gI gN iN dr es of od pl hd tk kn li pa ins cm fd hr) hs r) 0 0 (va_A (wC h cI cL NW bk sz wd mb gB gI gN iN dr es of od pl hd tk kn li pa ins cm fd hr) hs) := by
  refine mUi (cc := b_L_groupInodes) (maxL := 1) (by decide) rfl (Nat.le_of_ble_eq_true rfl) ?_
  intro p e s m args below meth c Q hx hb hml hts hown A hA hK hP hD hS hret ls hl
  have htb : ∀ w ∈ TB, w.before args s = true := fun w h => hts w (List.mem_cons_of_mem _ h)
  have hl : lv_has ls 1 [(0, .ref (h 3))] := hl
  unfold f_L_groupInodes at hf
  refine lv_aload_n hx hb d_L_groupInodes_0 rfl (lv_at hl 0 rfl) ?_
  refine va_get (D := (dC, dI)) (ci := 2) (v := .int gI) (C := R_L) (T := T_L) (N := 6) hx hb htb in_L hown hK hP 3 rfl rfl 3 (by decide) (htb _ tw_122) (fun _ h9 => h9) rfl d_L_groupInodes_1 ?_
  cases hf
  exact hret _ _ _ _ hP hD hS d_L_groupInodes_4
set_option maxHeartbeats 4000000 in
set_option maxRecDepth 100000 in
theorem c_L_described {l : Launch} {dC : Nat → ClassId} {dI : Nat → Nat → Nat} {h : Nat → Nat} {cI : ClassId} {cL : ClassId} {NW : Nat} {bk : Int32} {sz : Int32} {wd : Nat → Int64} {mb : Nat → Int32} {gB : Int32} {gI : Int32} {gN : Int32} {iN : Int32} {dr : Int32} {es : Int64} {of : Int64} {od : Int32} {pl : Int64} {hd : Int64} {tk : Nat → Int32} {kn : Nat → Int32} {li : Nat → Int32} {pa : Nat → Int32} {ins : Nat → Int32} {cm : Int32} {fd : Int32} {hr : Int32} {hs : Nat} {a1 : Int32} {a2 : Int32} {a3 : Int32} {r : Int64} (hf : f_L_described NW sz wd a1 a2 a3 = some (r)) : Met l y_L_described ws_L_described { frames := 1, cells := 0, slots := 0, locals := 27 } (PcU (dC, dI) clAll [(cI, .int), (cL, .long)] (wC h cI cL NW bk sz wd mb gB gI gN iN dr es of od pl hd tk kn li pa ins cm fd hr) hs [.ref (h 3), .int a1, .int a2, .int a3]) (QUl (dC, dI) clAll [(cI, .int), (cL, .long)] (wC h cI cL NW bk sz wd mb gB gI gN iN dr es of od pl hd tk kn li pa ins cm fd hr) (wC h cI cL NW bk sz wd mb gB gI gN iN dr es of od pl hd tk kn li pa ins cm fd hr) hs r) 0 0 (va_A (wC h cI cL NW bk sz wd mb gB gI gN iN dr es of od pl hd tk kn li pa ins cm fd hr) hs) := by
  refine mUl (cc := b_L_described) (maxL := 4) (by decide) rfl (Nat.le_of_ble_eq_true rfl) ?_
  intro p e s m args below meth c Q hx hb hml hts hown A hA hK hP hD hS hret ls hl
  have htb : ∀ w ∈ TB, w.before args s = true := fun w h => hts w (List.mem_cons_of_mem _ h)
  have hl : lv_has ls 4 [(0, .ref (h 3)), (1, .int a1), (2, .int a2), (3, .int a3)] := hl
  unfold f_L_described at hf
  refine lv_aload_n hx hb d_L_described_0 rfl (lv_at hl 0 rfl) ?_
  refine va_get (D := (dC, dI)) (ci := 2) (v := .ref (h 1)) (C := R_L) (T := T_L) (N := 6) hx hb htb in_L hown hK hP 3 rfl rfl 0 (by decide) (htb _ tw_119) (fun _ h9 => h9) rfl d_L_described_1 ?_
  refine lv_sipush (v := 2048) hx hb d_L_described_4 (by decide) ?_
  refine lv_bipush (v := 32) hx hb d_L_described_7 (by decide) ?_
  refine lv_iload_n hx hb d_L_described_9 rfl (lv_at hl 1 rfl) ?_
  refine lv_imul hx hb d_L_described_10 ?_
  refine lv_iadd hx hb d_L_described_11 ?_
  refine lv_iload_n hx hb d_L_described_12 rfl (lv_at hl 2 rfl) ?_
  refine lv_iadd hx hb d_L_described_13 ?_
  refine lv_i2l hx hb d_L_described_14 rfl ?_
  refine lv_iload_n hx hb d_L_described_15 rfl (lv_at hl 3 rfl) ?_
  obtain ⟨r_1, hc_2, hf⟩ := bd1_s hf
  refine ucVl (As := [.long (Int32.toInt64 ((((2048 : Int32)) + (((32 : Int32)) * a1)) + a2)), .int a3]) (rest := []) ⟨hx, hb, hml, hown, htb⟩ hK hP hD hS hA (fun hs => c_D_number hc_2) (cwV 2 htb (gV tw_289 tw_264 tw_265 tw_69 tw_266) rfl rfl rfl (by decide +kernel) ⟨Nat.le_of_ble_eq_true rfl, Nat.le_of_ble_eq_true rfl⟩) 1 0 rfl rfl rfl rfl rfl hl.1 (Nat.le_of_ble_eq_true rfl) d_L_described_16 ⟨Nat.zero_le _, Nat.zero_le _⟩ (fun H locs hP hD hS => ?_)
  cases hf
  exact hret _ _ _ _ hP hD hS d_L_described_19
set_option maxHeartbeats 4000000 in
set_option maxRecDepth 100000 in
theorem c_L_setMap {l : Launch} {dC : Nat → ClassId} {dI : Nat → Nat → Nat} {h : Nat → Nat} {cI : ClassId} {cL : ClassId} {NW : Nat} {bk : Int32} {sz : Int32} {wd : Nat → Int64} {mb : Nat → Int32} {gB : Int32} {gI : Int32} {gN : Int32} {iN : Int32} {dr : Int32} {es : Int64} {of : Int64} {od : Int32} {pl : Int64} {hd : Int64} {tk : Nat → Int32} {kn : Nat → Int32} {li : Nat → Int32} {pa : Nat → Int32} {ins : Nat → Int32} {cm : Int32} {fd : Int32} {hr : Int32} {hs : Nat} {a1 : Int32} {a2 : Int32} {mb' : Nat → Int32} (hf : f_L_setMap NW mb a1 a2 = some (mb')) : Met l y_L_setMap ws_L_setMap { frames := 0, cells := 0, slots := 0, locals := 0 } (PcU (dC, dI) clAll [(cI, .int), (cL, .long)] (wC h cI cL NW bk sz wd mb gB gI gN iN dr es of od pl hd tk kn li pa ins cm fd hr) hs [.ref (h 3), .int a1, .int a2]) (QUv (dC, dI) clAll [(cI, .int), (cL, .long)] (wC h cI cL NW bk sz wd mb gB gI gN iN dr es of od pl hd tk kn li pa ins cm fd hr) (wC h cI cL NW bk sz wd mb' gB gI gN iN dr es of od pl hd tk kn li pa ins cm fd hr) hs) 0 0 (va_A (wC h cI cL NW bk sz wd mb gB gI gN iN dr es of od pl hd tk kn li pa ins cm fd hr) hs) := by
  refine mUv (cc := b_L_setMap) (maxL := 3) (by decide) rfl (Nat.le_of_ble_eq_true rfl) ?_
  intro p e s m args below meth c Q hx hb hml hts hown A hA hK hP hD hS hret ls hl
  have htb : ∀ w ∈ TB, w.before args s = true := fun w h => hts w (List.mem_cons_of_mem _ h)
  have hl : lv_has ls 3 [(0, .ref (h 3)), (1, .int a1), (2, .int a2)] := hl
  unfold f_L_setMap at hf
  refine lv_iload_n hx hb d_L_setMap_0 rfl (lv_at hl 1 rfl) ?_
  refine lv_if_lt (tgt := 17) hx hb d_L_setMap_1 (by decide) (fun c_1 => ?_) (fun c_1 => ?_)
  · have hf := ite_t c_1 hf
    cases hf
    exact hret _ _ _ _ hP hD hS d_L_setMap_17
  · have hf := ite_f c_1 hf
    refine lv_iload_n hx hb d_L_setMap_4 rfl (lv_at hl 1 rfl) ?_
    refine lv_bipush (v := 8) hx hb d_L_setMap_5 (by decide) ?_
    refine lv_icmp_ge (tgt := 17) hx hb d_L_setMap_7 (by decide) (fun c_2 => ?_) (fun c_2 => ?_)
    · have hf := ite_t c_2 hf
      cases hf
      exact hret _ _ _ _ hP hD hS d_L_setMap_17
    · have hf := ite_f c_2 hf
      refine lv_aload_n hx hb d_L_setMap_10 rfl (lv_at hl 0 rfl) ?_
      refine va_get (D := (dC, dI)) (ci := 2) (v := .ref (h 4)) (C := R_L) (T := T_L) (N := 6) hx hb htb in_L hown hK hP 3 rfl rfl 1 (by decide) (htb _ tw_120) (fun _ h9 => h9) rfl d_L_setMap_11 ?_
      refine lv_iload_n hx hb d_L_setMap_14 rfl (lv_at hl 1 rfl) ?_
      refine lv_iload_n hx hb d_L_setMap_15 rfl (lv_at hl 2 rfl) ?_
      obtain ⟨c_3, hf⟩ := gd_s hf
      refine va_iast (i := a1) (x := a2) hx hb hK hP hD hS 4 0 rfl rfl c_3 d_L_setMap_16 (fun H locs hP hD hS => ?_)
      obtain ⟨mb_4, emb_4, hf⟩ := lt1_s hf
      have hP : va_P (dC, dI) clAll (wC h cI cL NW bk sz wd mb_4 gB gI gN iN dr es of od pl hd tk kn li pa ins cm fd hr) H := emb_4 ▸ hP
      have hD : va_D A (wC h cI cL NW bk sz wd mb_4 gB gI gN iN dr es of od pl hd tk kn li pa ins cm fd hr) := emb_4 ▸ hD
      cases hf
      exact hret _ _ _ _ hP hD hS d_L_setMap_17
set_option maxHeartbeats 4000000 in
set_option maxRecDepth 100000 in
theorem c_L_groupOf {l : Launch} {dC : Nat → ClassId} {dI : Nat → Nat → Nat} {h : Nat → Nat} {cI : ClassId} {cL : ClassId} {NW : Nat} {bk : Int32} {sz : Int32} {wd : Nat → Int64} {mb : Nat → Int32} {gB : Int32} {gI : Int32} {gN : Int32} {iN : Int32} {dr : Int32} {es : Int64} {of : Int64} {od : Int32} {pl : Int64} {hd : Int64} {tk : Nat → Int32} {kn : Nat → Int32} {li : Nat → Int32} {pa : Nat → Int32} {ins : Nat → Int32} {cm : Int32} {fd : Int32} {hr : Int32} {hs : Nat} {a1 : Int32} {r : Int32} (hf : f_L_groupOf NW gI a1 = some (r)) : Met l y_L_groupOf ws_L_groupOf { frames := 0, cells := 0, slots := 0, locals := 0 } (PcU (dC, dI) clAll [(cI, .int), (cL, .long)] (wC h cI cL NW bk sz wd mb gB gI gN iN dr es of od pl hd tk kn li pa ins cm fd hr) hs [.ref (h 3), .int a1]) (QUi (dC, dI) clAll [(cI, .int), (cL, .long)] (wC h cI cL NW bk sz wd mb gB gI gN iN dr es of od pl hd tk kn li pa ins cm fd hr) (wC h cI cL NW bk sz wd mb gB gI gN iN dr es of od pl hd tk kn li pa ins cm fd hr) hs r) 0 0 (va_A (wC h cI cL NW bk sz wd mb gB gI gN iN dr es of od pl hd tk kn li pa ins cm fd hr) hs) := by
  refine mUi (cc := b_L_groupOf) (maxL := 2) (by decide) rfl (Nat.le_of_ble_eq_true rfl) ?_
  intro p e s m args below meth c Q hx hb hml hts hown A hA hK hP hD hS hret ls hl
  have htb : ∀ w ∈ TB, w.before args s = true := fun w h => hts w (List.mem_cons_of_mem _ h)
  have hl : lv_has ls 2 [(0, .ref (h 3)), (1, .int a1)] := hl
  unfold f_L_groupOf at hf
  refine lv_iload_n hx hb d_L_groupOf_0 rfl (lv_at hl 1 rfl) ?_
  refine lv_iconst (v := 1) hx hb d_L_groupOf_1 (by decide) ?_
  refine lv_icmp_lt (tgt := 23) hx hb d_L_groupOf_2 (by decide) (fun c_1 => ?_) (fun c_1 => ?_)
  · have hf := ite_t c_1 hf
    refine lv_iconst (v := -1) hx hb d_L_groupOf_23 (by decide) ?_
    cases hf
    exact hret _ _ _ _ hP hD hS d_L_groupOf_24
  · have hf := ite_f c_1 hf
    refine lv_aload_n hx hb d_L_groupOf_5 rfl (lv_at hl 0 rfl) ?_
    refine va_get (D := (dC, dI)) (ci := 2) (v := .int gI) (C := R_L) (T := T_L) (N := 6) hx hb htb in_L hown hK hP 3 rfl rfl 3 (by decide) (htb _ tw_122) (fun _ h9 => h9) rfl d_L_groupOf_6 ?_
    refine lv_if_le (tgt := 23) hx hb d_L_groupOf_9 (by decide) (fun c_2 => ?_) (fun c_2 => ?_)
    · have hf := ite_t c_2 hf
      refine lv_iconst (v := -1) hx hb d_L_groupOf_23 (by decide) ?_
      cases hf
      exact hret _ _ _ _ hP hD hS d_L_groupOf_24
    · have hf := ite_f c_2 hf
      refine lv_iload_n hx hb d_L_groupOf_12 rfl (lv_at hl 1 rfl) ?_
      refine lv_iconst (v := 1) hx hb d_L_groupOf_13 (by decide) ?_
      refine lv_isub hx hb d_L_groupOf_14 ?_
      refine lv_aload_n hx hb d_L_groupOf_15 rfl (lv_at hl 0 rfl) ?_
      refine va_get (D := (dC, dI)) (ci := 2) (v := .int gI) (C := R_L) (T := T_L) (N := 6) hx hb htb in_L hown hK hP 3 rfl rfl 3 (by decide) (htb _ tw_122) (fun _ h9 => h9) rfl d_L_groupOf_16 ?_
      obtain ⟨c_3, hf⟩ := gd_s hf
      refine lv_idiv hx hb d_L_groupOf_19 c_3 ?_
      refine lv_goto (tgt := 24) hx hb d_L_groupOf_20 (by decide) ?_
      cases hf
      exact hret _ _ _ _ hP hD hS d_L_groupOf_24
set_option maxHeartbeats 4000000 in
set_option maxRecDepth 100000 in
theorem c_L_isUsed {l : Launch} {dC : Nat → ClassId} {dI : Nat → Nat → Nat} {h : Nat → Nat} {cI : ClassId} {cL : ClassId} {NW : Nat} {bk : Int32} {sz : Int32} {wd : Nat → Int64} {mb : Nat → Int32} {gB : Int32} {gI : Int32} {gN : Int32} {iN : Int32} {dr : Int32} {es : Int64} {of : Int64} {od : Int32} {pl : Int64} {hd : Int64} {tk : Nat → Int32} {kn : Nat → Int32} {li : Nat → Int32} {pa : Nat → Int32} {ins : Nat → Int32} {cm : Int32} {fd : Int32} {hr : Int32} {hs : Nat} {a1 : Int32} {r : Int32} (hf : f_L_isUsed NW sz wd mb gI a1 = some (r)) : Met l y_L_isUsed ws_L_isUsed { frames := 1, cells := 0, slots := 0, locals := 27 } (PcU (dC, dI) clAll [(cI, .int), (cL, .long)] (wC h cI cL NW bk sz wd mb gB gI gN iN dr es of od pl hd tk kn li pa ins cm fd hr) hs [.ref (h 3), .int a1]) (QUi (dC, dI) clAll [(cI, .int), (cL, .long)] (wC h cI cL NW bk sz wd mb gB gI gN iN dr es of od pl hd tk kn li pa ins cm fd hr) (wC h cI cL NW bk sz wd mb gB gI gN iN dr es of od pl hd tk kn li pa ins cm fd hr) hs r) 0 0 (va_A (wC h cI cL NW bk sz wd mb gB gI gN iN dr es of od pl hd tk kn li pa ins cm fd hr) hs) := by
  refine mUz (cc := b_L_isUsed) (maxL := 4) (by decide) rfl (Nat.le_of_ble_eq_true rfl) ?_
  intro p e s m args below meth c Q hx hb hml hts hown A hA hK hP hD hS hret ls hl
  have htb : ∀ w ∈ TB, w.before args s = true := fun w h => hts w (List.mem_cons_of_mem _ h)
  have hl : lv_has ls 4 [(0, .ref (h 3)), (1, .int a1)] := hl
  unfold f_L_isUsed at hf
  refine lv_aload_n hx hb d_L_isUsed_0 rfl (lv_at hl 0 rfl) ?_
  refine lv_iload_n hx hb d_L_isUsed_1 rfl (lv_at hl 1 rfl) ?_
  obtain ⟨r_1, hc_2, hf⟩ := bd1_s hf
  refine ucVi (As := [.int a1]) (rest := []) ⟨hx, hb, hml, hown, htb⟩ hK hP hD hS hA (fun hs => c_L_groupOf hc_2) (cwV 1 htb (gV tw_373 tw_374 tw_375 tw_71 tw_376) rfl rfl rfl (by decide +kernel) ⟨Nat.le_of_ble_eq_true rfl, Nat.le_of_ble_eq_true rfl⟩) 3 2 rfl rfl rfl rfl rfl hl.1 (Nat.le_of_ble_eq_true rfl) d_L_isUsed_2 ⟨Nat.zero_le _, Nat.zero_le _⟩ (fun H locs hP hD hS => ?_)
  refine lv_istore_n (lv' := [(2, .int r_1), (0, .ref (h 3)), (1, .int a1)]) hx hb d_L_isUsed_5 rfl hl (by decide) rfl (fun ls hl => ?_)
  refine lv_iload_n hx hb d_L_isUsed_6 rfl (lv_at hl 0 rfl) ?_
  refine lv_if_lt (tgt := 16) hx hb d_L_isUsed_7 (by decide) (fun c_3 => ?_) (fun c_3 => ?_)
  · have hf := ite_t c_3 hf
    refine lv_iconst (v := 0) hx hb d_L_isUsed_16 (by decide) ?_
    cases hf
    exact hret _ _ _ _ (Or.inl rfl) hP hD hS d_L_isUsed_17
  · have hf := ite_f c_3 hf
    refine lv_iload_n hx hb d_L_isUsed_10 rfl (lv_at hl 0 rfl) ?_
    refine lv_bipush (v := 8) hx hb d_L_isUsed_11 (by decide) ?_
    refine lv_icmp_lt (tgt := 18) hx hb d_L_isUsed_13 (by decide) (fun c_4 => ?_) (fun c_4 => ?_)
    · have hf := ite_t c_4 hf
      refine lv_iload_n hx hb d_L_isUsed_18 rfl (lv_at hl 2 rfl) ?_
      refine lv_iconst (v := 1) hx hb d_L_isUsed_19 (by decide) ?_
      refine lv_isub hx hb d_L_isUsed_20 ?_
      refine lv_iload_n hx hb d_L_isUsed_21 rfl (lv_at hl 0 rfl) ?_
      refine lv_aload_n hx hb d_L_isUsed_22 rfl (lv_at hl 1 rfl) ?_
      refine va_get (D := (dC, dI)) (ci := 2) (v := .int gI) (C := R_L) (T := T_L) (N := 6) hx hb htb in_L hown hK hP 3 rfl rfl 3 (by decide) (htb _ tw_122) (fun _ h9 => h9) rfl d_L_isUsed_23 ?_
      refine lv_imul hx hb d_L_isUsed_26 ?_
      refine lv_isub hx hb d_L_isUsed_27 ?_
      obtain ⟨v3_5, ev3_5, hf⟩ := lt1_s hf
      refine lv_eqi ev3_5 ?_
      refine lv_istore_n (lv' := [(3, .int v3_5), (2, .int r_1), (0, .ref (h 3)), (1, .int a1)]) hx hb d_L_isUsed_28 rfl hl (by decide) rfl (fun ls hl => ?_)
      refine lv_aload_n hx hb d_L_isUsed_29 rfl (lv_at hl 2 rfl) ?_
      refine va_get (D := (dC, dI)) (ci := 2) (v := .ref (h 1)) (C := R_L) (T := T_L) (N := 6) hx hb htb in_L hown hK hP 3 rfl rfl 0 (by decide) (htb _ tw_119) (fun _ h9 => h9) rfl d_L_isUsed_30 ?_
      refine lv_ldc2 (v := 1024) hx hb hown (htb _ tw_377) d_L_isUsed_33 ?_
      refine lv_aload_n hx hb d_L_isUsed_36 rfl (lv_at hl 2 rfl) ?_
      refine va_get (D := (dC, dI)) (ci := 2) (v := .ref (h 4)) (C := R_L) (T := T_L) (N := 6) hx hb htb in_L hown hK hP 3 rfl rfl 1 (by decide) (htb _ tw_120) (fun _ h9 => h9) rfl d_L_isUsed_37 ?_
      refine lv_iload_n hx hb d_L_isUsed_40 rfl (lv_at hl 1 rfl) ?_
      obtain ⟨c_6, hf⟩ := gd_s hf
      refine va_iald (i := r_1) hx hb hK hP 4 0 rfl rfl c_6 d_L_isUsed_41 ?_
      refine lv_iconst (v := 1) hx hb d_L_isUsed_42 (by decide) ?_
      refine lv_iadd hx hb d_L_isUsed_43 ?_
      refine lv_i2l hx hb d_L_isUsed_44 rfl ?_
      refine lv_lmul hx hb d_L_isUsed_45 ?_
      refine lv_iload_n hx hb d_L_isUsed_46 rfl (lv_at hl 0 rfl) ?_
      refine lv_bipush (v := 8) hx hb d_L_isUsed_47 (by decide) ?_
      refine lv_idiv hx hb d_L_isUsed_49 (by decide) ?_
      refine lv_i2l hx hb d_L_isUsed_50 rfl ?_
      refine lv_ladd hx hb d_L_isUsed_51 ?_
      refine lv_iconst (v := 1) hx hb d_L_isUsed_52 (by decide) ?_
      obtain ⟨r_7, hc_8, hf⟩ := bd1_s hf
      refine ucVl (As := [.long ((((1024 : Int64)) * (Int32.toInt64 ((mb (Int32.toNatClampNeg r_1)) + ((1 : Int32))))) + (Int32.toInt64 (v3_5 / ((8 : Int32))))), .int ((1 : Int32))]) (rest := []) ⟨hx, hb, hml, hown, htb⟩ hK hP hD hS hA (fun hs => c_D_number hc_8) (cwV 2 htb (gV tw_289 tw_264 tw_265 tw_69 tw_266) rfl rfl rfl (by decide +kernel) ⟨Nat.le_of_ble_eq_true rfl, Nat.le_of_ble_eq_true rfl⟩) 1 0 rfl rfl rfl rfl rfl hl.1 (Nat.le_of_ble_eq_true rfl) d_L_isUsed_53 ⟨Nat.zero_le _, Nat.zero_le _⟩ (fun H locs hP hD hS => ?_)
      refine lv_iload_n hx hb d_L_isUsed_56 rfl (lv_at hl 0 rfl) ?_
      refine lv_bipush (v := 8) hx hb d_L_isUsed_57 (by decide) ?_
      refine lv_irem hx hb d_L_isUsed_59 (by decide) ?_
      refine lv_lshr hx hb d_L_isUsed_60 rfl ?_
      refine lv_lconst (v := 1) hx hb d_L_isUsed_61 (by decide) ?_
      refine lv_land hx hb d_L_isUsed_62 ?_
      refine lv_lconst (v := 0) hx hb d_L_isUsed_63 (by decide) ?_
      refine lc_eq (tgt := 72) hx hb d_L_isUsed_64 d_L_isUsed_65 (by decide) (fun c_9 => ?_) (fun c_9 => ?_)
      · have hf := ite_t c_9 hf
        refine lv_iconst (v := 0) hx hb d_L_isUsed_72 (by decide) ?_
        cases hf
        exact hret _ _ _ _ (Or.inl rfl) hP hD hS d_L_isUsed_73
      · have hf := ite_f c_9 hf
        refine lv_iconst (v := 1) hx hb d_L_isUsed_68 (by decide) ?_
        refine lv_goto (tgt := 73) hx hb d_L_isUsed_69 (by decide) ?_
        cases hf
        exact hret _ _ _ _ (Or.inr rfl) hP hD hS d_L_isUsed_73
    · have hf := ite_f c_4 hf
      refine lv_iconst (v := 0) hx hb d_L_isUsed_16 (by decide) ?_
      cases hf
      exact hret _ _ _ _ (Or.inl rfl) hP hD hS d_L_isUsed_17
set_option maxHeartbeats 4000000 in
set_option maxRecDepth 100000 in
theorem c_L_inodePlace {l : Launch} {dC : Nat → ClassId} {dI : Nat → Nat → Nat} {h : Nat → Nat} {cI : ClassId} {cL : ClassId} {NW : Nat} {bk : Int32} {sz : Int32} {wd : Nat → Int64} {mb : Nat → Int32} {gB : Int32} {gI : Int32} {gN : Int32} {iN : Int32} {dr : Int32} {es : Int64} {of : Int64} {od : Int32} {pl : Int64} {hd : Int64} {tk : Nat → Int32} {kn : Nat → Int32} {li : Nat → Int32} {pa : Nat → Int32} {ins : Nat → Int32} {cm : Int32} {fd : Int32} {hr : Int32} {hs : Nat} {a1 : Int32} {r : Int64} (hf : f_L_inodePlace NW mb gI a1 = some (r)) : Met l y_L_inodePlace ws_L_inodePlace { frames := 0, cells := 0, slots := 0, locals := 0 } (PcU (dC, dI) clAll [(cI, .int), (cL, .long)] (wC h cI cL NW bk sz wd mb gB gI gN iN dr es of od pl hd tk kn li pa ins cm fd hr) hs [.ref (h 3), .int a1]) (QUl (dC, dI) clAll [(cI, .int), (cL, .long)] (wC h cI cL NW bk sz wd mb gB gI gN iN dr es of od pl hd tk kn li pa ins cm fd hr) (wC h cI cL NW bk sz wd mb gB gI gN iN dr es of od pl hd tk kn li pa ins cm fd hr) hs r) 0 0 (va_A (wC h cI cL NW bk sz wd mb gB gI gN iN dr es of od pl hd tk kn li pa ins cm fd hr) hs) := by
  refine mUl (cc := b_L_inodePlace) (maxL := 3) (by decide) rfl (Nat.le_of_ble_eq_true rfl) ?_
  intro p e s m args below meth c Q hx hb hml hts hown A hA hK hP hD hS hret ls hl
  have htb : ∀ w ∈ TB, w.before args s = true := fun w h => hts w (List.mem_cons_of_mem _ h)
  have hl : lv_has ls 3 [(0, .ref (h 3)), (1, .int a1)] := hl
  unfold f_L_inodePlace at hf
  refine lv_iload_n hx hb d_L_inodePlace_0 rfl (lv_at hl 1 rfl) ?_
  refine lv_iconst (v := 1) hx hb d_L_inodePlace_1 (by decide) ?_
  refine lv_icmp_lt (tgt := 13) hx hb d_L_inodePlace_2 (by decide) (fun c_1 => ?_) (fun c_1 => ?_)
  · have hf := ite_t c_1 hf
    refine lv_ldc2 (v := -1024) hx hb hown (htb _ tw_386) d_L_inodePlace_13 ?_
    cases hf
    exact hret _ _ _ _ hP hD hS d_L_inodePlace_16
  · have hf := ite_f c_1 hf
    refine lv_aload_n hx hb d_L_inodePlace_5 rfl (lv_at hl 0 rfl) ?_
    refine va_get (D := (dC, dI)) (ci := 2) (v := .int gI) (C := R_L) (T := T_L) (N := 6) hx hb htb in_L hown hK hP 3 rfl rfl 3 (by decide) (htb _ tw_122) (fun _ h9 => h9) rfl d_L_inodePlace_6 ?_
    refine lv_iconst (v := 1) hx hb d_L_inodePlace_9 (by decide) ?_
    refine lv_icmp_ge (tgt := 17) hx hb d_L_inodePlace_10 (by decide) (fun c_2 => ?_) (fun c_2 => ?_)
    · have hf := ite_t c_2 hf
      refine lv_iload_n hx hb d_L_inodePlace_17 rfl (lv_at hl 1 rfl) ?_
      refine lv_iconst (v := 1) hx hb d_L_inodePlace_18 (by decide) ?_
      refine lv_isub hx hb d_L_inodePlace_19 ?_
      refine lv_aload_n hx hb d_L_inodePlace_20 rfl (lv_at hl 0 rfl) ?_
      refine va_get (D := (dC, dI)) (ci := 2) (v := .int gI) (C := R_L) (T := T_L) (N := 6) hx hb htb in_L hown hK hP 3 rfl rfl 3 (by decide) (htb _ tw_122) (fun _ h9 => h9) rfl d_L_inodePlace_21 ?_
      obtain ⟨c_3, hf⟩ := gd_s hf
      refine lv_idiv hx hb d_L_inodePlace_24 c_3 ?_
      obtain ⟨v2_4, ev2_4, hf⟩ := lt1_s hf
      refine lv_eqi ev2_4 ?_
      refine lv_istore_n (lv' := [(2, .int v2_4), (0, .ref (h 3)), (1, .int a1)]) hx hb d_L_inodePlace_25 rfl hl (by decide) rfl (fun ls hl => ?_)
      refine lv_iload_n hx hb d_L_inodePlace_26 rfl (lv_at hl 0 rfl) ?_
      refine lv_bipush (v := 8) hx hb d_L_inodePlace_27 (by decide) ?_
      refine lv_icmp_lt (tgt := 36) hx hb d_L_inodePlace_29 (by decide) (fun c_5 => ?_) (fun c_5 => ?_)
      · have hf := ite_t c_5 hf
        refine lv_ldc2 (v := 1024) hx hb hown (htb _ tw_377) d_L_inodePlace_36 ?_
        refine lv_aload_n hx hb d_L_inodePlace_39 rfl (lv_at hl 1 rfl) ?_
        refine va_get (D := (dC, dI)) (ci := 2) (v := .ref (h 4)) (C := R_L) (T := T_L) (N := 6) hx hb htb in_L hown hK hP 3 rfl rfl 1 (by decide) (htb _ tw_120) (fun _ h9 => h9) rfl d_L_inodePlace_40 ?_
        refine lv_iload_n hx hb d_L_inodePlace_43 rfl (lv_at hl 0 rfl) ?_
        obtain ⟨c_6, hf⟩ := gd_s hf
        refine va_iald (i := v2_4) hx hb hK hP 4 0 rfl rfl c_6 d_L_inodePlace_44 ?_
        refine lv_iconst (v := 2) hx hb d_L_inodePlace_45 (by decide) ?_
        refine lv_iadd hx hb d_L_inodePlace_46 ?_
        refine lv_i2l hx hb d_L_inodePlace_47 rfl ?_
        refine lv_lmul hx hb d_L_inodePlace_48 ?_
        refine lv_sipush (v := 128) hx hb d_L_inodePlace_49 (by decide) ?_
        refine lv_iload_n hx hb d_L_inodePlace_52 rfl (lv_at hl 2 rfl) ?_
        refine lv_iconst (v := 1) hx hb d_L_inodePlace_53 (by decide) ?_
        refine lv_isub hx hb d_L_inodePlace_54 ?_
        refine lv_iload_n hx hb d_L_inodePlace_55 rfl (lv_at hl 0 rfl) ?_
        refine lv_aload_n hx hb d_L_inodePlace_56 rfl (lv_at hl 1 rfl) ?_
        refine va_get (D := (dC, dI)) (ci := 2) (v := .int gI) (C := R_L) (T := T_L) (N := 6) hx hb htb in_L hown hK hP 3 rfl rfl 3 (by decide) (htb _ tw_122) (fun _ h9 => h9) rfl d_L_inodePlace_57 ?_
        refine lv_imul hx hb d_L_inodePlace_60 ?_
        refine lv_isub hx hb d_L_inodePlace_61 ?_
        refine lv_imul hx hb d_L_inodePlace_62 ?_
        refine lv_i2l hx hb d_L_inodePlace_63 rfl ?_
        refine lv_ladd hx hb d_L_inodePlace_64 ?_
        cases hf
        exact hret _ _ _ _ hP hD hS d_L_inodePlace_65
      · have hf := ite_f c_5 hf
        refine lv_ldc2 (v := -1024) hx hb hown (htb _ tw_386) d_L_inodePlace_32 ?_
        cases hf
        exact hret _ _ _ _ hP hD hS d_L_inodePlace_35
    · have hf := ite_f c_2 hf
      refine lv_ldc2 (v := -1024) hx hb hown (htb _ tw_386) d_L_inodePlace_13 ?_
      cases hf
      exact hret _ _ _ _ hP hD hS d_L_inodePlace_16
set_option maxHeartbeats 4000000 in
set_option maxRecDepth 100000 in
theorem c_L_typeOf {l : Launch} {dC : Nat → ClassId} {dI : Nat → Nat → Nat} {h : Nat → Nat} {cI : ClassId} {cL : ClassId} {NW : Nat} {bk : Int32} {sz : Int32} {wd : Nat → Int64} {mb : Nat → Int32} {gB : Int32} {gI : Int32} {gN : Int32} {iN : Int32} {dr : Int32} {es : Int64} {of : Int64} {od : Int32} {pl : Int64} {hd : Int64} {tk : Nat → Int32} {kn : Nat → Int32} {li : Nat → Int32} {pa : Nat → Int32} {ins : Nat → Int32} {cm : Int32} {fd : Int32} {hr : Int32} {hs : Nat} {a1 : Int32} {r : Int32} (hf : f_L_typeOf NW sz wd mb gI a1 = some (r)) : Met l y_L_typeOf ws_L_typeOf { frames := 1, cells := 0, slots := 0, locals := 27 } (PcU (dC, dI) clAll [(cI, .int), (cL, .long)] (wC h cI cL NW bk sz wd mb gB gI gN iN dr es of od pl hd tk kn li pa ins cm fd hr) hs [.ref (h 3), .int a1]) (QUi (dC, dI) clAll [(cI, .int), (cL, .long)] (wC h cI cL NW bk sz wd mb gB gI gN iN dr es of od pl hd tk kn li pa ins cm fd hr) (wC h cI cL NW bk sz wd mb gB gI gN iN dr es of od pl hd tk kn li pa ins cm fd hr) hs r) 0 0 (va_A (wC h cI cL NW bk sz wd mb gB gI gN iN dr es of od pl hd tk kn li pa ins cm fd hr) hs) := by
  refine mUi (cc := b_L_typeOf) (maxL := 2) (by decide) rfl (Nat.le_of_ble_eq_true rfl) ?_
  intro p e s m args below meth c Q hx hb hml hts hown A hA hK hP hD hS hret ls hl
  have htb : ∀ w ∈ TB, w.before args s = true := fun w h => hts w (List.mem_cons_of_mem _ h)
  have hl : lv_has ls 2 [(0, .ref (h 3)), (1, .int a1)] := hl
  unfold f_L_typeOf at hf
  refine lv_aload_n hx hb d_L_typeOf_0 rfl (lv_at hl 0 rfl) ?_
  refine va_get (D := (dC, dI)) (ci := 2) (v := .ref (h 1)) (C := R_L) (T := T_L) (N := 6) hx hb htb in_L hown hK hP 3 rfl rfl 0 (by decide) (htb _ tw_119) (fun _ h9 => h9) rfl d_L_typeOf_1 ?_
  refine lv_aload_n hx hb d_L_typeOf_4 rfl (lv_at hl 0 rfl) ?_
  refine lv_iload_n hx hb d_L_typeOf_5 rfl (lv_at hl 1 rfl) ?_
  obtain ⟨r_1, hc_2, hf⟩ := bd1_s hf
  refine ucVl (As := [.int a1]) (rest := [.ref (h 1)]) ⟨hx, hb, hml, hown, htb⟩ hK hP hD hS hA (fun hs => c_L_inodePlace hc_2) (cwV 1 htb (gV tw_382 tw_383 tw_384 tw_71 tw_385) rfl rfl rfl (by decide +kernel) ⟨Nat.le_of_ble_eq_true rfl, Nat.le_of_ble_eq_true rfl⟩) 3 2 rfl rfl rfl rfl rfl hl.1 (Nat.le_of_ble_eq_true rfl) d_L_typeOf_6 ⟨Nat.zero_le _, Nat.zero_le _⟩ (fun H locs hP hD hS => ?_)
  refine lv_iconst (v := 2) hx hb d_L_typeOf_9 (by decide) ?_
  obtain ⟨r_3, hc_4, hf⟩ := bd1_s hf
  refine ucVl (As := [.long r_1, .int ((2 : Int32))]) (rest := []) ⟨hx, hb, hml, hown, htb⟩ hK hP hD hS hA (fun hs => c_D_number hc_4) (cwV 2 htb (gV tw_289 tw_264 tw_265 tw_69 tw_266) rfl rfl rfl (by decide +kernel) ⟨Nat.le_of_ble_eq_true rfl, Nat.le_of_ble_eq_true rfl⟩) 1 0 rfl rfl rfl rfl rfl hl.1 (Nat.le_of_ble_eq_true rfl) d_L_typeOf_10 ⟨Nat.zero_le _, Nat.zero_le _⟩ (fun H locs hP hD hS => ?_)
  refine lv_l2i hx hb d_L_typeOf_13 rfl ?_
  refine lv_ldc (v := 61440) hx hb hown (htb _ tw_387) d_L_typeOf_14 ?_
  refine lv_iand hx hb d_L_typeOf_16 ?_
  cases hf
  exact hret _ _ _ _ hP hD hS d_L_typeOf_17
set_option maxHeartbeats 4000000 in
set_option maxRecDepth 100000 in
theorem c_L_sizeOf {l : Launch} {dC : Nat → ClassId} {dI : Nat → Nat → Nat} {h : Nat → Nat} {cI : ClassId} {cL : ClassId} {NW : Nat} {bk : Int32} {sz : Int32} {wd : Nat → Int64} {mb : Nat → Int32} {gB : Int32} {gI : Int32} {gN : Int32} {iN : Int32} {dr : Int32} {es : Int64} {of : Int64} {od : Int32} {pl : Int64} {hd : Int64} {tk : Nat → Int32} {kn : Nat → Int32} {li : Nat → Int32} {pa : Nat → Int32} {ins : Nat → Int32} {cm : Int32} {fd : Int32} {hr : Int32} {hs : Nat} {a1 : Int32} {r : Int64} (hf : f_L_sizeOf NW sz wd mb gI a1 = some (r)) : Met l y_L_sizeOf ws_L_sizeOf { frames := 1, cells := 0, slots := 0, locals := 27 } (PcU (dC, dI) clAll [(cI, .int), (cL, .long)] (wC h cI cL NW bk sz wd mb gB gI gN iN dr es of od pl hd tk kn li pa ins cm fd hr) hs [.ref (h 3), .int a1]) (QUl (dC, dI) clAll [(cI, .int), (cL, .long)] (wC h cI cL NW bk sz wd mb gB gI gN iN dr es of od pl hd tk kn li pa ins cm fd hr) (wC h cI cL NW bk sz wd mb gB gI gN iN dr es of od pl hd tk kn li pa ins cm fd hr) hs r) 0 0 (va_A (wC h cI cL NW bk sz wd mb gB gI gN iN dr es of od pl hd tk kn li pa ins cm fd hr) hs) := by
  refine mUl (cc := b_L_sizeOf) (maxL := 2) (by decide) rfl (Nat.le_of_ble_eq_true rfl) ?_
  intro p e s m args below meth c Q hx hb hml hts hown A hA hK hP hD hS hret ls hl
  have htb : ∀ w ∈ TB, w.before args s = true := fun w h => hts w (List.mem_cons_of_mem _ h)
  have hl : lv_has ls 2 [(0, .ref (h 3)), (1, .int a1)] := hl
  unfold f_L_sizeOf at hf
  refine lv_aload_n hx hb d_L_sizeOf_0 rfl (lv_at hl 0 rfl) ?_
  refine va_get (D := (dC, dI)) (ci := 2) (v := .ref (h 1)) (C := R_L) (T := T_L) (N := 6) hx hb htb in_L hown hK hP 3 rfl rfl 0 (by decide) (htb _ tw_119) (fun _ h9 => h9) rfl d_L_sizeOf_1 ?_
  refine lv_aload_n hx hb d_L_sizeOf_4 rfl (lv_at hl 0 rfl) ?_
  refine lv_iload_n hx hb d_L_sizeOf_5 rfl (lv_at hl 1 rfl) ?_
  obtain ⟨r_1, hc_2, hf⟩ := bd1_s hf
  refine ucVl (As := [.int a1]) (rest := [.ref (h 1)]) ⟨hx, hb, hml, hown, htb⟩ hK hP hD hS hA (fun hs => c_L_inodePlace hc_2) (cwV 1 htb (gV tw_382 tw_383 tw_384 tw_71 tw_385) rfl rfl rfl (by decide +kernel) ⟨Nat.le_of_ble_eq_true rfl, Nat.le_of_ble_eq_true rfl⟩) 3 2 rfl rfl rfl rfl rfl hl.1 (Nat.le_of_ble_eq_true rfl) d_L_sizeOf_6 ⟨Nat.zero_le _, Nat.zero_le _⟩ (fun H locs hP hD hS => ?_)
  refine lv_ldc2 (v := 4) hx hb hown (htb _ tw_396) d_L_sizeOf_9 ?_
  refine lv_ladd hx hb d_L_sizeOf_12 ?_
  refine lv_iconst (v := 4) hx hb d_L_sizeOf_13 (by decide) ?_
  obtain ⟨r_3, hc_4, hf⟩ := bd1_s hf
  refine ucVl (As := [.long (r_1 + ((4 : Int64))), .int ((4 : Int32))]) (rest := []) ⟨hx, hb, hml, hown, htb⟩ hK hP hD hS hA (fun hs => c_D_number hc_4) (cwV 2 htb (gV tw_289 tw_264 tw_265 tw_69 tw_266) rfl rfl rfl (by decide +kernel) ⟨Nat.le_of_ble_eq_true rfl, Nat.le_of_ble_eq_true rfl⟩) 1 0 rfl rfl rfl rfl rfl hl.1 (Nat.le_of_ble_eq_true rfl) d_L_sizeOf_14 ⟨Nat.zero_le _, Nat.zero_le _⟩ (fun H locs hP hD hS => ?_)
  cases hf
  exact hret _ _ _ _ hP hD hS d_L_sizeOf_17
set_option maxHeartbeats 4000000 in
set_option maxRecDepth 100000 in
theorem c_L_blocksFor {l : Launch} {dC : Nat → ClassId} {dI : Nat → Nat → Nat} {h : Nat → Nat} {cI : ClassId} {cL : ClassId} {NW : Nat} {bk : Int32} {sz : Int32} {wd : Nat → Int64} {mb : Nat → Int32} {gB : Int32} {gI : Int32} {gN : Int32} {iN : Int32} {dr : Int32} {es : Int64} {of : Int64} {od : Int32} {pl : Int64} {hd : Int64} {tk : Nat → Int32} {kn : Nat → Int32} {li : Nat → Int32} {pa : Nat → Int32} {ins : Nat → Int32} {cm : Int32} {fd : Int32} {hr : Int32} {hs : Nat} {a1 : Int64} {r : Int32} (hf : f_L_blocksFor NW a1 = some (r)) : Met l y_L_blocksFor ws_L_blocksFor { frames := 0, cells := 0, slots := 0, locals := 0 } (PcU (dC, dI) clAll [(cI, .int), (cL, .long)] (wC h cI cL NW bk sz wd mb gB gI gN iN dr es of od pl hd tk kn li pa ins cm fd hr) hs [.ref (h 3), .long a1]) (QUi (dC, dI) clAll [(cI, .int), (cL, .long)] (wC h cI cL NW bk sz wd mb gB gI gN iN dr es of od pl hd tk kn li pa ins cm fd hr) (wC h cI cL NW bk sz wd mb gB gI gN iN dr es of od pl hd tk kn li pa ins cm fd hr) hs r) 0 0 (va_A (wC h cI cL NW bk sz wd mb gB gI gN iN dr es of od pl hd tk kn li pa ins cm fd hr) hs) := by
  refine mUi (cc := b_L_blocksFor) (maxL := 3) (by decide) rfl (Nat.le_of_ble_eq_true rfl) ?_
  intro p e s m args below meth c Q hx hb hml hts hown A hA hK hP hD hS hret ls hl
  have htb : ∀ w ∈ TB, w.before args s = true := fun w h => hts w (List.mem_cons_of_mem _ h)
  have hl : lv_has ls 3 [(0, .ref (h 3)), (1, .long a1)] := hl
  unfold f_L_blocksFor at hf
  refine lv_lload_n hx hb d_L_blocksFor_0 rfl (lv_at hl 1 rfl) ?_
  refine lv_ldc2 (v := 1024) hx hb hown (htb _ tw_377) d_L_blocksFor_1 ?_
  refine lv_ladd hx hb d_L_blocksFor_4 ?_
  refine lv_lconst (v := 1) hx hb d_L_blocksFor_5 (by decide) ?_
  refine lv_lsub hx hb d_L_blocksFor_6 ?_
  refine lv_ldc2 (v := 1024) hx hb hown (htb _ tw_377) d_L_blocksFor_7 ?_
  refine lv_ldiv hx hb d_L_blocksFor_10 (by decide) ?_
  refine lv_l2i hx hb d_L_blocksFor_11 rfl ?_
  cases hf
  exact hret _ _ _ _ hP hD hS d_L_blocksFor_12
set_option maxHeartbeats 4000000 in
set_option maxRecDepth 100000 in
theorem c_L_field {l : Launch} {dC : Nat → ClassId} {dI : Nat → Nat → Nat} {h : Nat → Nat} {cI : ClassId} {cL : ClassId} {NW : Nat} {bk : Int32} {sz : Int32} {wd : Nat → Int64} {mb : Nat → Int32} {gB : Int32} {gI : Int32} {gN : Int32} {iN : Int32} {dr : Int32} {es : Int64} {of : Int64} {od : Int32} {pl : Int64} {hd : Int64} {tk : Nat → Int32} {kn : Nat → Int32} {li : Nat → Int32} {pa : Nat → Int32} {ins : Nat → Int32} {cm : Int32} {fd : Int32} {hr : Int32} {hs : Nat} {a1 : Int32} {a2 : Int32} {a3 : Int32} {r : Int64} (hf : f_L_field NW sz wd mb gI a1 a2 a3 = some (r)) : Met l y_L_field ws_L_field { frames := 1, cells := 0, slots := 0, locals := 27 } (PcU (dC, dI) clAll [(cI, .int), (cL, .long)] (wC h cI cL NW bk sz wd mb gB gI gN iN dr es of od pl hd tk kn li pa ins cm fd hr) hs [.ref (h 3), .int a1, .int a2, .int a3]) (QUl (dC, dI) clAll [(cI, .int), (cL, .long)] (wC h cI cL NW bk sz wd mb gB gI gN iN dr es of od pl hd tk kn li pa ins cm fd hr) (wC h cI cL NW bk sz wd mb gB gI gN iN dr es of od pl hd tk kn li pa ins cm fd hr) hs r) 0 0 (va_A (wC h cI cL NW bk sz wd mb gB gI gN iN dr es of od pl hd tk kn li pa ins cm fd hr) hs) := by
  refine mUl (cc := b_L_field) (maxL := 4) (by decide) rfl (Nat.le_of_ble_eq_true rfl) ?_
  intro p e s m args below meth c Q hx hb hml hts hown A hA hK hP hD hS hret ls hl
  have htb : ∀ w ∈ TB, w.before args s = true := fun w h => hts w (List.mem_cons_of_mem _ h)
  have hl : lv_has ls 4 [(0, .ref (h 3)), (1, .int a1), (2, .int a2), (3, .int a3)] := hl
  unfold f_L_field at hf
  refine lv_aload_n hx hb d_L_field_0 rfl (lv_at hl 0 rfl) ?_
  refine va_get (D := (dC, dI)) (ci := 2) (v := .ref (h 1)) (C := R_L) (T := T_L) (N := 6) hx hb htb in_L hown hK hP 3 rfl rfl 0 (by decide) (htb _ tw_119) (fun _ h9 => h9) rfl d_L_field_1 ?_
  refine lv_aload_n hx hb d_L_field_4 rfl (lv_at hl 0 rfl) ?_
  refine lv_iload_n hx hb d_L_field_5 rfl (lv_at hl 1 rfl) ?_
  obtain ⟨r_1, hc_2, hf⟩ := bd1_s hf
  refine ucVl (As := [.int a1]) (rest := [.ref (h 1)]) ⟨hx, hb, hml, hown, htb⟩ hK hP hD hS hA (fun hs => c_L_inodePlace hc_2) (cwV 1 htb (gV tw_382 tw_383 tw_384 tw_71 tw_385) rfl rfl rfl (by decide +kernel) ⟨Nat.le_of_ble_eq_true rfl, Nat.le_of_ble_eq_true rfl⟩) 3 2 rfl rfl rfl rfl rfl hl.1 (Nat.le_of_ble_eq_true rfl) d_L_field_6 ⟨Nat.zero_le _, Nat.zero_le _⟩ (fun H locs hP hD hS => ?_)
  refine lv_iload_n hx hb d_L_field_9 rfl (lv_at hl 2 rfl) ?_
  refine lv_i2l hx hb d_L_field_10 rfl ?_
  refine lv_ladd hx hb d_L_field_11 ?_
  refine lv_iload_n hx hb d_L_field_12 rfl (lv_at hl 3 rfl) ?_
  obtain ⟨r_3, hc_4, hf⟩ := bd1_s hf
  refine ucVl (As := [.long (r_1 + (Int32.toInt64 a2)), .int a3]) (rest := []) ⟨hx, hb, hml, hown, htb⟩ hK hP hD hS hA (fun hs => c_D_number hc_4) (cwV 2 htb (gV tw_289 tw_264 tw_265 tw_69 tw_266) rfl rfl rfl (by decide +kernel) ⟨Nat.le_of_ble_eq_true rfl, Nat.le_of_ble_eq_true rfl⟩) 1 0 rfl rfl rfl rfl rfl hl.1 (Nat.le_of_ble_eq_true rfl) d_L_field_13 ⟨Nat.zero_le _, Nat.zero_le _⟩ (fun H locs hP hD hS => ?_)
  cases hf
  exact hret _ _ _ _ hP hD hS d_L_field_16
set_option maxHeartbeats 4000000 in
set_option maxRecDepth 100000 in
theorem c_L_blockOf {l : Launch} {dC : Nat → ClassId} {dI : Nat → Nat → Nat} {h : Nat → Nat} {cI : ClassId} {cL : ClassId} {NW : Nat} {bk : Int32} {sz : Int32} {wd : Nat → Int64} {mb : Nat → Int32} {gB : Int32} {gI : Int32} {gN : Int32} {iN : Int32} {dr : Int32} {es : Int64} {of : Int64} {od : Int32} {pl : Int64} {hd : Int64} {tk : Nat → Int32} {kn : Nat → Int32} {li : Nat → Int32} {pa : Nat → Int32} {ins : Nat → Int32} {cm : Int32} {fd : Int32} {hr : Int32} {hs : Nat} {a1 : Int32} {a2 : Int32} {r : Int64} (hf : f_L_blockOf NW sz wd mb gI a1 a2 = some (r)) : Met l y_L_blockOf ws_L_blockOf { frames := 1, cells := 0, slots := 0, locals := 27 } (PcU (dC, dI) clAll [(cI, .int), (cL, .long)] (wC h cI cL NW bk sz wd mb gB gI gN iN dr es of od pl hd tk kn li pa ins cm fd hr) hs [.ref (h 3), .int a1, .int a2]) (QUl (dC, dI) clAll [(cI, .int), (cL, .long)] (wC h cI cL NW bk sz wd mb gB gI gN iN dr es of od pl hd tk kn li pa ins cm fd hr) (wC h cI cL NW bk sz wd mb gB gI gN iN dr es of od pl hd tk kn li pa ins cm fd hr) hs r) 0 0 (va_A (wC h cI cL NW bk sz wd mb gB gI gN iN dr es of od pl hd tk kn li pa ins cm fd hr) hs) := by
  refine mUl (cc := b_L_blockOf) (maxL := 10) (by decide) rfl (Nat.le_of_ble_eq_true rfl) ?_
  intro p e s m args below meth c Q hx hb hml hts hown A hA hK hP hD hS hret ls hl
  have htb : ∀ w ∈ TB, w.before args s = true := fun w h => hts w (List.mem_cons_of_mem _ h)
  have hl : lv_has ls 10 [(0, .ref (h 3)), (1, .int a1), (2, .int a2)] := hl
  unfold f_L_blockOf at hf
  refine lv_aload_n hx hb d_L_blockOf_0 rfl (lv_at hl 0 rfl) ?_
  refine lv_iload_n hx hb d_L_blockOf_1 rfl (lv_at hl 1 rfl) ?_
  obtain ⟨r_1, hc_2, hf⟩ := bd1_s hf
  refine ucVl (As := [.int a1]) (rest := []) ⟨hx, hb, hml, hown, htb⟩ hK hP hD hS hA (fun hs => c_L_inodePlace hc_2) (cwV 1 htb (gV tw_382 tw_383 tw_384 tw_71 tw_385) rfl rfl rfl (by decide +kernel) ⟨Nat.le_of_ble_eq_true rfl, Nat.le_of_ble_eq_true rfl⟩) 3 2 rfl rfl rfl rfl rfl hl.1 (Nat.le_of_ble_eq_true rfl) d_L_blockOf_2 ⟨Nat.zero_le _, Nat.zero_le _⟩ (fun H locs hP hD hS => ?_)
  refine lv_lstore_n (lv' := [(3, .long r_1), (0, .ref (h 3)), (1, .int a1), (2, .int a2)]) hx hb d_L_blockOf_5 rfl hl (by decide) rfl (fun ls hl => ?_)
  refine lv_iload_n hx hb d_L_blockOf_6 rfl (lv_at hl 3 rfl) ?_
  refine lv_bipush (v := 12) hx hb d_L_blockOf_7 (by decide) ?_
  refine lv_icmp_ge (tgt := 31) hx hb d_L_blockOf_9 (by decide) (fun c_3 => ?_) (fun c_3 => ?_)
  · have hf := ite_t c_3 hf
    refine lv_iload_n hx hb d_L_blockOf_31 rfl (lv_at hl 3 rfl) ?_
    refine lv_sipush (v := 268) hx hb d_L_blockOf_32 (by decide) ?_
    refine lv_icmp_ge (tgt := 72) hx hb d_L_blockOf_35 (by decide) (fun c_4 => ?_) (fun c_4 => ?_)
    · have hf := ite_t c_4 hf
      refine lv_iload_n hx hb d_L_blockOf_72 rfl (lv_at hl 3 rfl) ?_
      refine lv_sipush (v := 268) hx hb d_L_blockOf_73 (by decide) ?_
      refine lv_isub hx hb d_L_blockOf_76 ?_
      obtain ⟨v5_5, ev5_5, hf⟩ := lt1_s hf
      refine lv_eqi ev5_5 ?_
      refine lv_istore (lv' := [(5, .int v5_5), (3, .long r_1), (0, .ref (h 3)), (1, .int a1), (2, .int a2)]) hx hb d_L_blockOf_77 hl (by decide) rfl (fun ls hl => ?_)
      refine lv_ldc2 (v := 1024) hx hb hown (htb _ tw_377) d_L_blockOf_79 ?_
      refine lv_aload_n hx hb d_L_blockOf_82 rfl (lv_at hl 2 rfl) ?_
      refine va_get (D := (dC, dI)) (ci := 2) (v := .ref (h 1)) (C := R_L) (T := T_L) (N := 6) hx hb htb in_L hown hK hP 3 rfl rfl 0 (by decide) (htb _ tw_119) (fun _ h9 => h9) rfl d_L_blockOf_83 ?_
      refine lv_lload_n hx hb d_L_blockOf_86 rfl (lv_at hl 1 rfl) ?_
      refine lv_ldc2 (v := 92) hx hb hown (htb _ tw_424) d_L_blockOf_87 ?_
      refine lv_ladd hx hb d_L_blockOf_90 ?_
      refine lv_iconst (v := 4) hx hb d_L_blockOf_91 (by decide) ?_
      obtain ⟨r_6, hc_7, hf⟩ := bd1_s hf
      refine ucVl (As := [.long (r_1 + ((92 : Int64))), .int ((4 : Int32))]) (rest := [.long ((1024 : Int64))]) ⟨hx, hb, hml, hown, htb⟩ hK hP hD hS hA (fun hs => c_D_number hc_7) (cwV 2 htb (gV tw_289 tw_264 tw_265 tw_69 tw_266) rfl rfl rfl (by decide +kernel) ⟨Nat.le_of_ble_eq_true rfl, Nat.le_of_ble_eq_true rfl⟩) 1 0 rfl rfl rfl rfl rfl hl.1 (Nat.le_of_ble_eq_true rfl) d_L_blockOf_92 ⟨Nat.zero_le _, Nat.zero_le _⟩ (fun H locs hP hD hS => ?_)
      refine lv_lmul hx hb d_L_blockOf_95 ?_
      obtain ⟨v6_8, ev6_8, hf⟩ := lt1_s hf
      refine lv_eql ev6_8 ?_
      refine lv_lstore (lv' := [(6, .long v6_8), (5, .int v5_5), (3, .long r_1), (0, .ref (h 3)), (1, .int a1), (2, .int a2)]) hx hb d_L_blockOf_96 hl (by decide) rfl (fun ls hl => ?_)
      refine lv_ldc2 (v := 1024) hx hb hown (htb _ tw_377) d_L_blockOf_98 ?_
      refine lv_aload_n hx hb d_L_blockOf_101 rfl (lv_at hl 3 rfl) ?_
      refine va_get (D := (dC, dI)) (ci := 2) (v := .ref (h 1)) (C := R_L) (T := T_L) (N := 6) hx hb htb in_L hown hK hP 3 rfl rfl 0 (by decide) (htb _ tw_119) (fun _ h9 => h9) rfl d_L_blockOf_102 ?_
      refine lv_lload hx hb d_L_blockOf_105 (lv_at hl 0 rfl) ?_
      refine lv_iconst (v := 4) hx hb d_L_blockOf_107 (by decide) ?_
      refine lv_iload hx hb d_L_blockOf_108 (lv_at hl 1 rfl) ?_
      refine lv_sipush (v := 256) hx hb d_L_blockOf_110 (by decide) ?_
      refine lv_idiv hx hb d_L_blockOf_113 (by decide) ?_
      refine lv_imul hx hb d_L_blockOf_114 ?_
      refine lv_i2l hx hb d_L_blockOf_115 rfl ?_
      refine lv_ladd hx hb d_L_blockOf_116 ?_
      refine lv_iconst (v := 4) hx hb d_L_blockOf_117 (by decide) ?_
      obtain ⟨r_9, hc_10, hf⟩ := bd1_s hf
      refine ucVl (As := [.long (v6_8 + (Int32.toInt64 (((4 : Int32)) * (v5_5 / ((256 : Int32)))))), .int ((4 : Int32))]) (rest := [.long ((1024 : Int64))]) ⟨hx, hb, hml, hown, htb⟩ hK hP hD hS hA (fun hs => c_D_number hc_10) (cwV 2 htb (gV tw_289 tw_264 tw_265 tw_69 tw_266) rfl rfl rfl (by decide +kernel) ⟨Nat.le_of_ble_eq_true rfl, Nat.le_of_ble_eq_true rfl⟩) 1 0 rfl rfl rfl rfl rfl hl.1 (Nat.le_of_ble_eq_true rfl) d_L_blockOf_118 ⟨Nat.zero_le _, Nat.zero_le _⟩ (fun H locs hP hD hS => ?_)
      refine lv_lmul hx hb d_L_blockOf_121 ?_
      obtain ⟨v8_11, ev8_11, hf⟩ := lt1_s hf
      refine lv_eql ev8_11 ?_
      refine lv_lstore (lv' := [(8, .long v8_11), (6, .long v6_8), (5, .int v5_5), (3, .long r_1), (0, .ref (h 3)), (1, .int a1), (2, .int a2)]) hx hb d_L_blockOf_122 hl (by decide) rfl (fun ls hl => ?_)
      refine lv_aload_n hx hb d_L_blockOf_124 rfl (lv_at hl 4 rfl) ?_
      refine va_get (D := (dC, dI)) (ci := 2) (v := .ref (h 1)) (C := R_L) (T := T_L) (N := 6) hx hb htb in_L hown hK hP 3 rfl rfl 0 (by decide) (htb _ tw_119) (fun _ h9 => h9) rfl d_L_blockOf_125 ?_
      refine lv_lload hx hb d_L_blockOf_128 (lv_at hl 0 rfl) ?_
      refine lv_iconst (v := 4) hx hb d_L_blockOf_130 (by decide) ?_
      refine lv_iload hx hb d_L_blockOf_131 (lv_at hl 2 rfl) ?_
      refine lv_sipush (v := 256) hx hb d_L_blockOf_133 (by decide) ?_
      refine lv_irem hx hb d_L_blockOf_136 (by decide) ?_
      refine lv_imul hx hb d_L_blockOf_137 ?_
      refine lv_i2l hx hb d_L_blockOf_138 rfl ?_
      refine lv_ladd hx hb d_L_blockOf_139 ?_
      refine lv_iconst (v := 4) hx hb d_L_blockOf_140 (by decide) ?_
      obtain ⟨r_12, hc_13, hf⟩ := bd1_s hf
      refine ucVl (As := [.long (v8_11 + (Int32.toInt64 (((4 : Int32)) * (v5_5 - v5_5 / ((256 : Int32)) * ((256 : Int32)))))), .int ((4 : Int32))]) (rest := []) ⟨hx, hb, hml, hown, htb⟩ hK hP hD hS hA (fun hs => c_D_number hc_13) (cwV 2 htb (gV tw_289 tw_264 tw_265 tw_69 tw_266) rfl rfl rfl (by decide +kernel) ⟨Nat.le_of_ble_eq_true rfl, Nat.le_of_ble_eq_true rfl⟩) 1 0 rfl rfl rfl rfl rfl hl.1 (Nat.le_of_ble_eq_true rfl) d_L_blockOf_141 ⟨Nat.zero_le _, Nat.zero_le _⟩ (fun H locs hP hD hS => ?_)
      cases hf
      exact hret _ _ _ _ hP hD hS d_L_blockOf_144
    · have hf := ite_f c_4 hf
      refine lv_aload_n hx hb d_L_blockOf_38 rfl (lv_at hl 1 rfl) ?_
      refine va_get (D := (dC, dI)) (ci := 2) (v := .ref (h 1)) (C := R_L) (T := T_L) (N := 6) hx hb htb in_L hown hK hP 3 rfl rfl 0 (by decide) (htb _ tw_119) (fun _ h9 => h9) rfl d_L_blockOf_39 ?_
      refine lv_ldc2 (v := 1024) hx hb hown (htb _ tw_377) d_L_blockOf_42 ?_
      refine lv_aload_n hx hb d_L_blockOf_45 rfl (lv_at hl 1 rfl) ?_
      refine va_get (D := (dC, dI)) (ci := 2) (v := .ref (h 1)) (C := R_L) (T := T_L) (N := 6) hx hb htb in_L hown hK hP 3 rfl rfl 0 (by decide) (htb _ tw_119) (fun _ h9 => h9) rfl d_L_blockOf_46 ?_
      refine lv_lload_n hx hb d_L_blockOf_49 rfl (lv_at hl 0 rfl) ?_
      refine lv_ldc2 (v := 88) hx hb hown (htb _ tw_423) d_L_blockOf_50 ?_
      refine lv_ladd hx hb d_L_blockOf_53 ?_
      refine lv_iconst (v := 4) hx hb d_L_blockOf_54 (by decide) ?_
      obtain ⟨r_14, hc_15, hf⟩ := bd1_s hf
      refine ucVl (As := [.long (r_1 + ((88 : Int64))), .int ((4 : Int32))]) (rest := [.long ((1024 : Int64)), .ref (h 1)]) ⟨hx, hb, hml, hown, htb⟩ hK hP hD hS hA (fun hs => c_D_number hc_15) (cwV 2 htb (gV tw_289 tw_264 tw_265 tw_69 tw_266) rfl rfl rfl (by decide +kernel) ⟨Nat.le_of_ble_eq_true rfl, Nat.le_of_ble_eq_true rfl⟩) 1 0 rfl rfl rfl rfl rfl hl.1 (Nat.le_of_ble_eq_true rfl) d_L_blockOf_55 ⟨Nat.zero_le _, Nat.zero_le _⟩ (fun H locs hP hD hS => ?_)
      refine lv_lmul hx hb d_L_blockOf_58 ?_
      refine lv_iconst (v := 4) hx hb d_L_blockOf_59 (by decide) ?_
      refine lv_iload_n hx hb d_L_blockOf_60 rfl (lv_at hl 3 rfl) ?_
      refine lv_bipush (v := 12) hx hb d_L_blockOf_61 (by decide) ?_
      refine lv_isub hx hb d_L_blockOf_63 ?_
      refine lv_imul hx hb d_L_blockOf_64 ?_
      refine lv_i2l hx hb d_L_blockOf_65 rfl ?_
      refine lv_ladd hx hb d_L_blockOf_66 ?_
      refine lv_iconst (v := 4) hx hb d_L_blockOf_67 (by decide) ?_
      obtain ⟨r_16, hc_17, hf⟩ := bd1_s hf
      refine ucVl (As := [.long ((((1024 : Int64)) * r_14) + (Int32.toInt64 (((4 : Int32)) * (a2 - ((12 : Int32)))))), .int ((4 : Int32))]) (rest := []) ⟨hx, hb, hml, hown, htb⟩ hK hP hD hS hA (fun hs => c_D_number hc_17) (cwV 2 htb (gV tw_289 tw_264 tw_265 tw_69 tw_266) rfl rfl rfl (by decide +kernel) ⟨Nat.le_of_ble_eq_true rfl, Nat.le_of_ble_eq_true rfl⟩) 1 0 rfl rfl rfl rfl rfl hl.1 (Nat.le_of_ble_eq_true rfl) d_L_blockOf_68 ⟨Nat.zero_le _, Nat.zero_le _⟩ (fun H locs hP hD hS => ?_)
      cases hf
      exact hret _ _ _ _ hP hD hS d_L_blockOf_71
  · have hf := ite_f c_3 hf
    refine lv_aload_n hx hb d_L_blockOf_12 rfl (lv_at hl 1 rfl) ?_
    refine va_get (D := (dC, dI)) (ci := 2) (v := .ref (h 1)) (C := R_L) (T := T_L) (N := 6) hx hb htb in_L hown hK hP 3 rfl rfl 0 (by decide) (htb _ tw_119) (fun _ h9 => h9) rfl d_L_blockOf_13 ?_
    refine lv_lload_n hx hb d_L_blockOf_16 rfl (lv_at hl 0 rfl) ?_
    refine lv_ldc2 (v := 40) hx hb hown (htb _ tw_422) d_L_blockOf_17 ?_
    refine lv_ladd hx hb d_L_blockOf_20 ?_
    refine lv_iconst (v := 4) hx hb d_L_blockOf_21 (by decide) ?_
    refine lv_iload_n hx hb d_L_blockOf_22 rfl (lv_at hl 3 rfl) ?_
    refine lv_imul hx hb d_L_blockOf_23 ?_
    refine lv_i2l hx hb d_L_blockOf_24 rfl ?_
    refine lv_ladd hx hb d_L_blockOf_25 ?_
    refine lv_iconst (v := 4) hx hb d_L_blockOf_26 (by decide) ?_
    obtain ⟨r_18, hc_19, hf⟩ := bd1_s hf
    refine ucVl (As := [.long ((r_1 + ((40 : Int64))) + (Int32.toInt64 (((4 : Int32)) * a2))), .int ((4 : Int32))]) (rest := []) ⟨hx, hb, hml, hown, htb⟩ hK hP hD hS hA (fun hs => c_D_number hc_19) (cwV 2 htb (gV tw_289 tw_264 tw_265 tw_69 tw_266) rfl rfl rfl (by decide +kernel) ⟨Nat.le_of_ble_eq_true rfl, Nat.le_of_ble_eq_true rfl⟩) 1 0 rfl rfl rfl rfl rfl hl.1 (Nat.le_of_ble_eq_true rfl) d_L_blockOf_27 ⟨Nat.zero_le _, Nat.zero_le _⟩ (fun H locs hP hD hS => ?_)
    cases hf
    exact hret _ _ _ _ hP hD hS d_L_blockOf_30
set_option maxHeartbeats 4000000 in
set_option maxRecDepth 100000 in
theorem c_L_isInode {l : Launch} {dC : Nat → ClassId} {dI : Nat → Nat → Nat} {h : Nat → Nat} {cI : ClassId} {cL : ClassId} {NW : Nat} {bk : Int32} {sz : Int32} {wd : Nat → Int64} {mb : Nat → Int32} {gB : Int32} {gI : Int32} {gN : Int32} {iN : Int32} {dr : Int32} {es : Int64} {of : Int64} {od : Int32} {pl : Int64} {hd : Int64} {tk : Nat → Int32} {kn : Nat → Int32} {li : Nat → Int32} {pa : Nat → Int32} {ins : Nat → Int32} {cm : Int32} {fd : Int32} {hr : Int32} {hs : Nat} {a1 : Int64} {r : Int32} (hf : f_L_isInode NW iN a1 = some (r)) : Met l y_L_isInode ws_L_isInode { frames := 0, cells := 0, slots := 0, locals := 0 } (PcU (dC, dI) clAll [(cI, .int), (cL, .long)] (wC h cI cL NW bk sz wd mb gB gI gN iN dr es of od pl hd tk kn li pa ins cm fd hr) hs [.ref (h 3), .long a1]) (QUi (dC, dI) clAll [(cI, .int), (cL, .long)] (wC h cI cL NW bk sz wd mb gB gI gN iN dr es of od pl hd tk kn li pa ins cm fd hr) (wC h cI cL NW bk sz wd mb gB gI gN iN dr es of od pl hd tk kn li pa ins cm fd hr) hs r) 0 0 (va_A (wC h cI cL NW bk sz wd mb gB gI gN iN dr es of od pl hd tk kn li pa ins cm fd hr) hs) := by
  refine mUz (cc := b_L_isInode) (maxL := 3) (by decide) rfl (Nat.le_of_ble_eq_true rfl) ?_
  intro p e s m args below meth c Q hx hb hml hts hown A hA hK hP hD hS hret ls hl
  have htb : ∀ w ∈ TB, w.before args s = true := fun w h => hts w (List.mem_cons_of_mem _ h)
  have hl : lv_has ls 3 [(0, .ref (h 3)), (1, .long a1)] := hl
  unfold f_L_isInode at hf
  refine lv_lload_n hx hb d_L_isInode_0 rfl (lv_at hl 1 rfl) ?_
  refine lv_lconst (v := 1) hx hb d_L_isInode_1 (by decide) ?_
  refine lc_lt (tgt := 20) hx hb d_L_isInode_2 d_L_isInode_3 (by decide) (fun c_1 => ?_) (fun c_1 => ?_)
  · have hf := ite_t c_1 hf
    refine lv_iconst (v := 0) hx hb d_L_isInode_20 (by decide) ?_
    cases hf
    exact hret _ _ _ _ (Or.inl rfl) hP hD hS d_L_isInode_21
  · have hf := ite_f c_1 hf
    refine lv_lload_n hx hb d_L_isInode_6 rfl (lv_at hl 1 rfl) ?_
    refine lv_aload_n hx hb d_L_isInode_7 rfl (lv_at hl 0 rfl) ?_
    refine va_get (D := (dC, dI)) (ci := 2) (v := .int iN) (C := R_L) (T := T_L) (N := 6) hx hb htb in_L hown hK hP 3 rfl rfl 5 (by decide) (htb _ tw_124) (fun _ h9 => h9) rfl d_L_isInode_8 ?_
    refine lv_i2l hx hb d_L_isInode_11 rfl ?_
    refine lc_gt (tgt := 20) hx hb d_L_isInode_12 d_L_isInode_13 (by decide) (fun c_2 => ?_) (fun c_2 => ?_)
    · have hf := ite_t c_2 hf
      refine lv_iconst (v := 0) hx hb d_L_isInode_20 (by decide) ?_
      cases hf
      exact hret _ _ _ _ (Or.inl rfl) hP hD hS d_L_isInode_21
    · have hf := ite_f c_2 hf
      refine lv_iconst (v := 1) hx hb d_L_isInode_16 (by decide) ?_
      refine lv_goto (tgt := 21) hx hb d_L_isInode_17 (by decide) ?_
      cases hf
      exact hret _ _ _ _ (Or.inr rfl) hP hD hS d_L_isInode_21
set_option maxHeartbeats 4000000 in
set_option maxRecDepth 100000 in
theorem c_L_blockMap {l : Launch} {dC : Nat → ClassId} {dI : Nat → Nat → Nat} {h : Nat → Nat} {cI : ClassId} {cL : ClassId} {NW : Nat} {bk : Int32} {sz : Int32} {wd : Nat → Int64} {mb : Nat → Int32} {gB : Int32} {gI : Int32} {gN : Int32} {iN : Int32} {dr : Int32} {es : Int64} {of : Int64} {od : Int32} {pl : Int64} {hd : Int64} {tk : Nat → Int32} {kn : Nat → Int32} {li : Nat → Int32} {pa : Nat → Int32} {ins : Nat → Int32} {cm : Int32} {fd : Int32} {hr : Int32} {hs : Nat} {a1 : Int32} {r : Int64} (hf : f_L_blockMap NW mb a1 = some (r)) : Met l y_L_blockMap ws_L_blockMap { frames := 0, cells := 0, slots := 0, locals := 0 } (PcU (dC, dI) clAll [(cI, .int), (cL, .long)] (wC h cI cL NW bk sz wd mb gB gI gN iN dr es of od pl hd tk kn li pa ins cm fd hr) hs [.ref (h 3), .int a1]) (QUl (dC, dI) clAll [(cI, .int), (cL, .long)] (wC h cI cL NW bk sz wd mb gB gI gN iN dr es of od pl hd tk kn li pa ins cm fd hr) (wC h cI cL NW bk sz wd mb gB gI gN iN dr es of od pl hd tk kn li pa ins cm fd hr) hs r) 0 0 (va_A (wC h cI cL NW bk sz wd mb gB gI gN iN dr es of od pl hd tk kn li pa ins cm fd hr) hs) := by
  refine mUl (cc := b_L_blockMap) (maxL := 2) (by decide) rfl (Nat.le_of_ble_eq_true rfl) ?_
  intro p e s m args below meth c Q hx hb hml hts hown A hA hK hP hD hS hret ls hl
  have htb : ∀ w ∈ TB, w.before args s = true := fun w h => hts w (List.mem_cons_of_mem _ h)
  have hl : lv_has ls 2 [(0, .ref (h 3)), (1, .int a1)] := hl
  unfold f_L_blockMap at hf
  refine lv_iload_n hx hb d_L_blockMap_0 rfl (lv_at hl 1 rfl) ?_
  refine lv_if_lt (tgt := 24) hx hb d_L_blockMap_1 (by decide) (fun c_1 => ?_) (fun c_1 => ?_)
  · have hf := ite_t c_1 hf
    refine lv_ldc2 (v := -1024) hx hb hown (htb _ tw_386) d_L_blockMap_24 ?_
    cases hf
    exact hret _ _ _ _ hP hD hS d_L_blockMap_27
  · have hf := ite_f c_1 hf
    refine lv_iload_n hx hb d_L_blockMap_4 rfl (lv_at hl 1 rfl) ?_
    refine lv_bipush (v := 8) hx hb d_L_blockMap_5 (by decide) ?_
    refine lv_icmp_ge (tgt := 24) hx hb d_L_blockMap_7 (by decide) (fun c_2 => ?_) (fun c_2 => ?_)
    · have hf := ite_t c_2 hf
      refine lv_ldc2 (v := -1024) hx hb hown (htb _ tw_386) d_L_blockMap_24 ?_
      cases hf
      exact hret _ _ _ _ hP hD hS d_L_blockMap_27
    · have hf := ite_f c_2 hf
      refine lv_ldc2 (v := 1024) hx hb hown (htb _ tw_377) d_L_blockMap_10 ?_
      refine lv_aload_n hx hb d_L_blockMap_13 rfl (lv_at hl 0 rfl) ?_
      refine va_get (D := (dC, dI)) (ci := 2) (v := .ref (h 4)) (C := R_L) (T := T_L) (N := 6) hx hb htb in_L hown hK hP 3 rfl rfl 1 (by decide) (htb _ tw_120) (fun _ h9 => h9) rfl d_L_blockMap_14 ?_
      refine lv_iload_n hx hb d_L_blockMap_17 rfl (lv_at hl 1 rfl) ?_
      obtain ⟨c_3, hf⟩ := gd_s hf
      refine va_iald (i := a1) hx hb hK hP 4 0 rfl rfl c_3 d_L_blockMap_18 ?_
      refine lv_i2l hx hb d_L_blockMap_19 rfl ?_
      refine lv_lmul hx hb d_L_blockMap_20 ?_
      refine lv_goto (tgt := 27) hx hb d_L_blockMap_21 (by decide) ?_
      cases hf
      exact hret _ _ _ _ hP hD hS d_L_blockMap_27
set_option maxHeartbeats 4000000 in
set_option maxRecDepth 100000 in
theorem c_L_inodeMap {l : Launch} {dC : Nat → ClassId} {dI : Nat → Nat → Nat} {h : Nat → Nat} {cI : ClassId} {cL : ClassId} {NW : Nat} {bk : Int32} {sz : Int32} {wd : Nat → Int64} {mb : Nat → Int32} {gB : Int32} {gI : Int32} {gN : Int32} {iN : Int32} {dr : Int32} {es : Int64} {of : Int64} {od : Int32} {pl : Int64} {hd : Int64} {tk : Nat → Int32} {kn : Nat → Int32} {li : Nat → Int32} {pa : Nat → Int32} {ins : Nat → Int32} {cm : Int32} {fd : Int32} {hr : Int32} {hs : Nat} {a1 : Int32} {r : Int64} (hf : f_L_inodeMap NW mb a1 = some (r)) : Met l y_L_inodeMap ws_L_inodeMap { frames := 1, cells := 0, slots := 0, locals := 21 } (PcU (dC, dI) clAll [(cI, .int), (cL, .long)] (wC h cI cL NW bk sz wd mb gB gI gN iN dr es of od pl hd tk kn li pa ins cm fd hr) hs [.ref (h 3), .int a1]) (QUl (dC, dI) clAll [(cI, .int), (cL, .long)] (wC h cI cL NW bk sz wd mb gB gI gN iN dr es of od pl hd tk kn li pa ins cm fd hr) (wC h cI cL NW bk sz wd mb gB gI gN iN dr es of od pl hd tk kn li pa ins cm fd hr) hs r) 0 0 (va_A (wC h cI cL NW bk sz wd mb gB gI gN iN dr es of od pl hd tk kn li pa ins cm fd hr) hs) := by
  refine mUl (cc := b_L_inodeMap) (maxL := 2) (by decide) rfl (Nat.le_of_ble_eq_true rfl) ?_
  intro p e s m args below meth c Q hx hb hml hts hown A hA hK hP hD hS hret ls hl
  have htb : ∀ w ∈ TB, w.before args s = true := fun w h => hts w (List.mem_cons_of_mem _ h)
  have hl : lv_has ls 2 [(0, .ref (h 3)), (1, .int a1)] := hl
  unfold f_L_inodeMap at hf
  refine lv_aload_n hx hb d_L_inodeMap_0 rfl (lv_at hl 0 rfl) ?_
  refine lv_iload_n hx hb d_L_inodeMap_1 rfl (lv_at hl 1 rfl) ?_
  obtain ⟨r_1, hc_2, hf⟩ := bd1_s hf
  refine ucVl (As := [.int a1]) (rest := []) ⟨hx, hb, hml, hown, htb⟩ hK hP hD hS hA (fun hs => c_L_blockMap hc_2) (cwV 1 htb (gV tw_566 tw_547 tw_548 tw_71 tw_549) rfl rfl rfl (by decide +kernel) ⟨Nat.le_of_ble_eq_true rfl, Nat.le_of_ble_eq_true rfl⟩) 3 2 rfl rfl rfl rfl rfl hl.1 (Nat.le_of_ble_eq_true rfl) d_L_inodeMap_2 ⟨Nat.zero_le _, Nat.zero_le _⟩ (fun H locs hP hD hS => ?_)
  refine lv_ldc2 (v := 1024) hx hb hown (htb _ tw_377) d_L_inodeMap_5 ?_
  refine lv_ladd hx hb d_L_inodeMap_8 ?_
  cases hf
  exact hret _ _ _ _ hP hD hS d_L_inodeMap_9
end
section
theorem d_E_start_0 : decode b_E_start 0 = .ok (.aload_n 0, 1) := by decide +kernel
theorem d_E_start_1 : decode b_E_start 1 = .ok (.iload_n 1, 1) := by decide +kernel
theorem d_E_start_2 : decode b_E_start 2 = .ok (.putfield 19, 3) := by decide +kernel
theorem d_E_start_5 : decode b_E_start 5 = .ok (.aload_n 0, 1) := by decide +kernel
theorem d_E_start_6 : decode b_E_start 6 = .ok (.aload_n 0, 1) := by decide +kernel
theorem d_E_start_7 : decode b_E_start 7 = .ok (.getfield 15, 3) := by decide +kernel
theorem d_E_start_10 : decode b_E_start 10 = .ok (.iload_n 1, 1) := by decide +kernel
theorem d_E_start_11 : decode b_E_start 11 = .ok (.invokevirtual 23, 3) := by decide +kernel
theorem d_E_start_14 : decode b_E_start 14 = .ok (.putfield 29, 3) := by decide +kernel
theorem d_E_start_17 : decode b_E_start 17 = .ok (.aload_n 0, 1) := by decide +kernel
theorem d_E_start_18 : decode b_E_start 18 = .ok (.lconst 0, 1) := by decide +kernel
theorem d_E_start_19 : decode b_E_start 19 = .ok (.putfield 33, 3) := by decide +kernel
theorem d_E_start_22 : decode b_E_start 22 = .ok (.aload_n 0, 1) := by decide +kernel
theorem d_E_start_23 : decode b_E_start 23 = .ok (.iconst 0, 1) := by decide +kernel
theorem d_E_start_24 : decode b_E_start 24 = .ok (.putfield 36, 3) := by decide +kernel
theorem d_E_start_27 : decode b_E_start 27 = .ok (.aload_n 0, 1) := by decide +kernel
theorem d_E_start_28 : decode b_E_start 28 = .ok (.ldc2_w 39, 3) := by decide +kernel
theorem d_E_start_31 : decode b_E_start 31 = .ok (.aload_n 0, 1) := by decide +kernel
theorem d_E_start_32 : decode b_E_start 32 = .ok (.getfield 15, 3) := by decide +kernel
theorem d_E_start_35 : decode b_E_start 35 = .ok (.iload_n 1, 1) := by decide +kernel
theorem d_E_start_36 : decode b_E_start 36 = .ok (.iconst 0, 1) := by decide +kernel
theorem d_E_start_37 : decode b_E_start 37 = .ok (.invokevirtual 41, 3) := by decide +kernel
theorem d_E_start_40 : decode b_E_start 40 = .ok (.lmul, 1) := by decide +kernel
theorem d_E_start_41 : decode b_E_start 41 = .ok (.putfield 45, 3) := by decide +kernel
theorem d_E_start_44 : decode b_E_start 44 = .ok (.aload_n 0, 1) := by decide +kernel
theorem d_E_start_45 : decode b_E_start 45 = .ok (.aload_n 0, 1) := by decide +kernel
theorem d_E_start_46 : decode b_E_start 46 = .ok (.getfield 9, 3) := by decide +kernel
theorem d_E_start_49 : decode b_E_start 49 = .ok (.aload_n 0, 1) := by decide +kernel
theorem d_E_start_50 : decode b_E_start 50 = .ok (.getfield 45, 3) := by decide +kernel
theorem d_E_start_53 : decode b_E_start 53 = .ok (.bipush 8, 2) := by decide +kernel
theorem d_E_start_55 : decode b_E_start 55 = .ok (.invokevirtual 48, 3) := by decide +kernel
theorem d_E_start_58 : decode b_E_start 58 = .ok (.putfield 54, 3) := by decide +kernel
theorem d_E_start_61 : decode b_E_start 61 = .ok (.return_, 1) := by decide +kernel
theorem d_E_isOn_0 : decode b_E_isOn 0 = .ok (.aload_n 0, 1) := by decide +kernel
theorem d_E_isOn_1 : decode b_E_isOn 1 = .ok (.getfield 33, 3) := by decide +kernel
theorem d_E_isOn_4 : decode b_E_isOn 4 = .ok (.aload_n 0, 1) := by decide +kernel
theorem d_E_isOn_5 : decode b_E_isOn 5 = .ok (.getfield 29, 3) := by decide +kernel
theorem d_E_isOn_8 : decode b_E_isOn 8 = .ok (.lcmp, 1) := by decide +kernel
theorem d_E_isOn_9 : decode b_E_isOn 9 = .ok (.ifCond .ge 7, 3) := by decide +kernel
theorem d_E_isOn_12 : decode b_E_isOn 12 = .ok (.iconst 1, 1) := by decide +kernel
theorem d_E_isOn_13 : decode b_E_isOn 13 = .ok (.goto 4, 3) := by decide +kernel
theorem d_E_isOn_16 : decode b_E_isOn 16 = .ok (.iconst 0, 1) := by decide +kernel
theorem d_E_isOn_17 : decode b_E_isOn 17 = .ok (.ireturn, 1) := by decide +kernel
theorem d_E_length_0 : decode b_E_length 0 = .ok (.aload_n 0, 1) := by decide +kernel
theorem d_E_length_1 : decode b_E_length 1 = .ok (.getfield 54, 3) := by decide +kernel
theorem d_E_length_4 : decode b_E_length 4 = .ok (.bipush 32, 2) := by decide +kernel
theorem d_E_length_6 : decode b_E_length 6 = .ok (.lushr, 1) := by decide +kernel
theorem d_E_length_7 : decode b_E_length 7 = .ok (.l2i, 1) := by decide +kernel
theorem d_E_length_8 : decode b_E_length 8 = .ok (.ldc 73, 2) := by decide +kernel
theorem d_E_length_10 : decode b_E_length 10 = .ok (.iand, 1) := by decide +kernel
theorem d_E_length_11 : decode b_E_length 11 = .ok (.ireturn, 1) := by decide +kernel
theorem d_E_fits_0 : decode b_E_fits 0 = .ok (.aload_n 0, 1) := by decide +kernel
theorem d_E_fits_1 : decode b_E_fits 1 = .ok (.invokevirtual 57, 3) := by decide +kernel
theorem d_E_fits_4 : decode b_E_fits 4 = .ok (.istore_n 1, 1) := by decide +kernel
theorem d_E_fits_5 : decode b_E_fits 5 = .ok (.iload_n 1, 1) := by decide +kernel
theorem d_E_fits_6 : decode b_E_fits 6 = .ok (.bipush 12, 2) := by decide +kernel
theorem d_E_fits_8 : decode b_E_fits 8 = .ok (.if_icmp .lt 31, 3) := by decide +kernel
theorem d_E_fits_11 : decode b_E_fits 11 = .ok (.iload_n 1, 1) := by decide +kernel
theorem d_E_fits_12 : decode b_E_fits 12 = .ok (.iconst 4, 1) := by decide +kernel
theorem d_E_fits_13 : decode b_E_fits 13 = .ok (.irem, 1) := by decide +kernel
theorem d_E_fits_14 : decode b_E_fits 14 = .ok (.ifCond .ne 25, 3) := by decide +kernel
theorem d_E_fits_17 : decode b_E_fits 17 = .ok (.aload_n 0, 1) := by decide +kernel
theorem d_E_fits_18 : decode b_E_fits 18 = .ok (.getfield 33, 3) := by decide +kernel
theorem d_E_fits_21 : decode b_E_fits 21 = .ok (.ldc2_w 39, 3) := by decide +kernel
theorem d_E_fits_24 : decode b_E_fits 24 = .ok (.lrem, 1) := by decide +kernel
theorem d_E_fits_25 : decode b_E_fits 25 = .ok (.iload_n 1, 1) := by decide +kernel
theorem d_E_fits_26 : decode b_E_fits 26 = .ok (.i2l, 1) := by decide +kernel
theorem d_E_fits_27 : decode b_E_fits 27 = .ok (.ladd, 1) := by decide +kernel
theorem d_E_fits_28 : decode b_E_fits 28 = .ok (.ldc2_w 39, 3) := by decide +kernel
theorem d_E_fits_31 : decode b_E_fits 31 = .ok (.lcmp, 1) := by decide +kernel
theorem d_E_fits_32 : decode b_E_fits 32 = .ok (.ifCond .gt 7, 3) := by decide +kernel
theorem d_E_fits_35 : decode b_E_fits 35 = .ok (.iconst 1, 1) := by decide +kernel
theorem d_E_fits_36 : decode b_E_fits 36 = .ok (.goto 4, 3) := by decide +kernel
theorem d_E_fits_39 : decode b_E_fits 39 = .ok (.iconst 0, 1) := by decide +kernel
theorem d_E_fits_40 : decode b_E_fits 40 = .ok (.ireturn, 1) := by decide +kernel
theorem d_E_isEmpty_0 : decode b_E_isEmpty 0 = .ok (.aload_n 0, 1) := by decide +kernel
theorem d_E_isEmpty_1 : decode b_E_isEmpty 1 = .ok (.getfield 36, 3) := by decide +kernel
theorem d_E_isEmpty_4 : decode b_E_isEmpty 4 = .ok (.iconst 2, 1) := by decide +kernel
theorem d_E_isEmpty_5 : decode b_E_isEmpty 5 = .ok (.if_icmp .lt 20, 3) := by decide +kernel
theorem d_E_isEmpty_8 : decode b_E_isEmpty 8 = .ok (.aload_n 0, 1) := by decide +kernel
theorem d_E_isEmpty_9 : decode b_E_isEmpty 9 = .ok (.getfield 54, 3) := by decide +kernel
theorem d_E_isEmpty_12 : decode b_E_isEmpty 12 = .ok (.ldc2_w 67, 3) := by decide +kernel
theorem d_E_isEmpty_15 : decode b_E_isEmpty 15 = .ok (.land, 1) := by decide +kernel
theorem d_E_isEmpty_16 : decode b_E_isEmpty 16 = .ok (.lconst 0, 1) := by decide +kernel
theorem d_E_isEmpty_17 : decode b_E_isEmpty 17 = .ok (.lcmp, 1) := by decide +kernel
theorem d_E_isEmpty_18 : decode b_E_isEmpty 18 = .ok (.ifCond .ne 7, 3) := by decide +kernel
theorem d_E_isEmpty_21 : decode b_E_isEmpty 21 = .ok (.iconst 1, 1) := by decide +kernel
theorem d_E_isEmpty_22 : decode b_E_isEmpty 22 = .ok (.goto 4, 3) := by decide +kernel
theorem d_E_isEmpty_25 : decode b_E_isEmpty 25 = .ok (.iconst 0, 1) := by decide +kernel
theorem d_E_isEmpty_26 : decode b_E_isEmpty 26 = .ok (.ireturn, 1) := by decide +kernel
theorem d_E_hasInode_0 : decode b_E_hasInode 0 = .ok (.aload_n 0, 1) := by decide +kernel
theorem d_E_hasInode_1 : decode b_E_hasInode 1 = .ok (.getfield 15, 3) := by decide +kernel
theorem d_E_hasInode_4 : decode b_E_hasInode 4 = .ok (.aload_n 0, 1) := by decide +kernel
theorem d_E_hasInode_5 : decode b_E_hasInode 5 = .ok (.getfield 54, 3) := by decide +kernel
theorem d_E_hasInode_8 : decode b_E_hasInode 8 = .ok (.ldc2_w 67, 3) := by decide +kernel
theorem d_E_hasInode_11 : decode b_E_hasInode 11 = .ok (.land, 1) := by decide +kernel
theorem d_E_hasInode_12 : decode b_E_hasInode 12 = .ok (.invokevirtual 69, 3) := by decide +kernel
theorem d_E_hasInode_15 : decode b_E_hasInode 15 = .ok (.ireturn, 1) := by decide +kernel
theorem d_E_nameLength_0 : decode b_E_nameLength 0 = .ok (.aload_n 0, 1) := by decide +kernel
theorem d_E_nameLength_1 : decode b_E_nameLength 1 = .ok (.getfield 54, 3) := by decide +kernel
theorem d_E_nameLength_4 : decode b_E_nameLength 4 = .ok (.bipush 48, 2) := by decide +kernel
theorem d_E_nameLength_6 : decode b_E_nameLength 6 = .ok (.lushr, 1) := by decide +kernel
theorem d_E_nameLength_7 : decode b_E_nameLength 7 = .ok (.l2i, 1) := by decide +kernel
theorem d_E_nameLength_8 : decode b_E_nameLength 8 = .ok (.sipush 255, 3) := by decide +kernel
theorem d_E_nameLength_11 : decode b_E_nameLength 11 = .ok (.iand, 1) := by decide +kernel
theorem d_E_nameLength_12 : decode b_E_nameLength 12 = .ok (.ireturn, 1) := by decide +kernel
theorem d_E_hasName_0 : decode b_E_hasName 0 = .ok (.aload_n 0, 1) := by decide +kernel
theorem d_E_hasName_1 : decode b_E_hasName 1 = .ok (.invokevirtual 76, 3) := by decide +kernel
theorem d_E_hasName_4 : decode b_E_hasName 4 = .ok (.istore_n 1, 1) := by decide +kernel
theorem d_E_hasName_5 : decode b_E_hasName 5 = .ok (.iload_n 1, 1) := by decide +kernel
theorem d_E_hasName_6 : decode b_E_hasName 6 = .ok (.ifCond .eq 14, 3) := by decide +kernel
theorem d_E_hasName_9 : decode b_E_hasName 9 = .ok (.bipush 8, 2) := by decide +kernel
theorem d_E_hasName_11 : decode b_E_hasName 11 = .ok (.iload_n 1, 1) := by decide +kernel
theorem d_E_hasName_12 : decode b_E_hasName 12 = .ok (.iadd, 1) := by decide +kernel
theorem d_E_hasName_13 : decode b_E_hasName 13 = .ok (.aload_n 0, 1) := by decide +kernel
theorem d_E_hasName_14 : decode b_E_hasName 14 = .ok (.invokevirtual 57, 3) := by decide +kernel
theorem d_E_hasName_17 : decode b_E_hasName 17 = .ok (.if_icmp .le 5, 3) := by decide +kernel
theorem d_E_hasName_20 : decode b_E_hasName 20 = .ok (.iconst 0, 1) := by decide +kernel
theorem d_E_hasName_21 : decode b_E_hasName 21 = .ok (.ireturn, 1) := by decide +kernel
theorem d_E_hasName_22 : decode b_E_hasName 22 = .ok (.iconst 0, 1) := by decide +kernel
theorem d_E_hasName_23 : decode b_E_hasName 23 = .ok (.istore_n 2, 1) := by decide +kernel
theorem d_E_hasName_24 : decode b_E_hasName 24 = .ok (.iload_n 2, 1) := by decide +kernel
theorem d_E_hasName_25 : decode b_E_hasName 25 = .ok (.iload_n 1, 1) := by decide +kernel
theorem d_E_hasName_26 : decode b_E_hasName 26 = .ok (.if_icmp .ge 45, 3) := by decide +kernel
theorem d_E_hasName_29 : decode b_E_hasName 29 = .ok (.aload_n 0, 1) := by decide +kernel
theorem d_E_hasName_30 : decode b_E_hasName 30 = .ok (.getfield 9, 3) := by decide +kernel
theorem d_E_hasName_33 : decode b_E_hasName 33 = .ok (.aload_n 0, 1) := by decide +kernel
theorem d_E_hasName_34 : decode b_E_hasName 34 = .ok (.getfield 45, 3) := by decide +kernel
theorem d_E_hasName_37 : decode b_E_hasName 37 = .ok (.ldc2_w 74, 3) := by decide +kernel
theorem d_E_hasName_40 : decode b_E_hasName 40 = .ok (.ladd, 1) := by decide +kernel
theorem d_E_hasName_41 : decode b_E_hasName 41 = .ok (.iload_n 2, 1) := by decide +kernel
theorem d_E_hasName_42 : decode b_E_hasName 42 = .ok (.i2l, 1) := by decide +kernel
theorem d_E_hasName_43 : decode b_E_hasName 43 = .ok (.ladd, 1) := by decide +kernel
theorem d_E_hasName_44 : decode b_E_hasName 44 = .ok (.iconst 1, 1) := by decide +kernel
theorem d_E_hasName_45 : decode b_E_hasName 45 = .ok (.invokevirtual 48, 3) := by decide +kernel
theorem d_E_hasName_48 : decode b_E_hasName 48 = .ok (.lstore_n 3, 1) := by decide +kernel
theorem d_E_hasName_49 : decode b_E_hasName 49 = .ok (.lload_n 3, 1) := by decide +kernel
theorem d_E_hasName_50 : decode b_E_hasName 50 = .ok (.lconst 0, 1) := by decide +kernel
theorem d_E_hasName_51 : decode b_E_hasName 51 = .ok (.lcmp, 1) := by decide +kernel
theorem d_E_hasName_52 : decode b_E_hasName 52 = .ok (.ifCond .eq 11, 3) := by decide +kernel
theorem d_E_hasName_55 : decode b_E_hasName 55 = .ok (.lload_n 3, 1) := by decide +kernel
theorem d_E_hasName_56 : decode b_E_hasName 56 = .ok (.ldc2_w 79, 3) := by decide +kernel
theorem d_E_hasName_59 : decode b_E_hasName 59 = .ok (.lcmp, 1) := by decide +kernel
theorem d_E_hasName_60 : decode b_E_hasName 60 = .ok (.ifCond .ne 5, 3) := by decide +kernel
theorem d_E_hasName_63 : decode b_E_hasName 63 = .ok (.iconst 0, 1) := by decide +kernel
theorem d_E_hasName_64 : decode b_E_hasName 64 = .ok (.ireturn, 1) := by decide +kernel
theorem d_E_hasName_65 : decode b_E_hasName 65 = .ok (.iinc 2 1, 3) := by decide +kernel
theorem d_E_hasName_68 : decode b_E_hasName 68 = .ok (.goto (-44), 3) := by decide +kernel
theorem d_E_hasName_71 : decode b_E_hasName 71 = .ok (.iconst 1, 1) := by decide +kernel
theorem d_E_hasName_72 : decode b_E_hasName 72 = .ok (.ireturn, 1) := by decide +kernel
theorem d_E_inode_0 : decode b_E_inode 0 = .ok (.aload_n 0, 1) := by decide +kernel
theorem d_E_inode_1 : decode b_E_inode 1 = .ok (.getfield 54, 3) := by decide +kernel
theorem d_E_inode_4 : decode b_E_inode 4 = .ok (.l2i, 1) := by decide +kernel
theorem d_E_inode_5 : decode b_E_inode 5 = .ok (.ireturn, 1) := by decide +kernel
theorem d_E_order_0 : decode b_E_order 0 = .ok (.aload_n 0, 1) := by decide +kernel
theorem d_E_order_1 : decode b_E_order 1 = .ok (.getfield 36, 3) := by decide +kernel
theorem d_E_order_4 : decode b_E_order 4 = .ok (.ireturn, 1) := by decide +kernel
theorem d_E_isOneDot_0 : decode b_E_isOneDot 0 = .ok (.aload_n 0, 1) := by decide +kernel
theorem d_E_isOneDot_1 : decode b_E_isOneDot 1 = .ok (.invokevirtual 76, 3) := by decide +kernel
theorem d_E_isOneDot_4 : decode b_E_isOneDot 4 = .ok (.iconst 1, 1) := by decide +kernel
theorem d_E_isOneDot_5 : decode b_E_isOneDot 5 = .ok (.if_icmp .ne 30, 3) := by decide +kernel
theorem d_E_isOneDot_8 : decode b_E_isOneDot 8 = .ok (.aload_n 0, 1) := by decide +kernel
theorem d_E_isOneDot_9 : decode b_E_isOneDot 9 = .ok (.getfield 9, 3) := by decide +kernel
theorem d_E_isOneDot_12 : decode b_E_isOneDot 12 = .ok (.aload_n 0, 1) := by decide +kernel
theorem d_E_isOneDot_13 : decode b_E_isOneDot 13 = .ok (.getfield 45, 3) := by decide +kernel
theorem d_E_isOneDot_16 : decode b_E_isOneDot 16 = .ok (.ldc2_w 74, 3) := by decide +kernel
theorem d_E_isOneDot_19 : decode b_E_isOneDot 19 = .ok (.ladd, 1) := by decide +kernel
theorem d_E_isOneDot_20 : decode b_E_isOneDot 20 = .ok (.iconst 1, 1) := by decide +kernel
theorem d_E_isOneDot_21 : decode b_E_isOneDot 21 = .ok (.invokevirtual 48, 3) := by decide +kernel
theorem d_E_isOneDot_24 : decode b_E_isOneDot 24 = .ok (.ldc2_w 81, 3) := by decide +kernel
theorem d_E_isOneDot_27 : decode b_E_isOneDot 27 = .ok (.lcmp, 1) := by decide +kernel
theorem d_E_isOneDot_28 : decode b_E_isOneDot 28 = .ok (.ifCond .ne 7, 3) := by decide +kernel
theorem d_E_isOneDot_31 : decode b_E_isOneDot 31 = .ok (.iconst 1, 1) := by decide +kernel
theorem d_E_isOneDot_32 : decode b_E_isOneDot 32 = .ok (.goto 4, 3) := by decide +kernel
theorem d_E_isOneDot_35 : decode b_E_isOneDot 35 = .ok (.iconst 0, 1) := by decide +kernel
theorem d_E_isOneDot_36 : decode b_E_isOneDot 36 = .ok (.ireturn, 1) := by decide +kernel
theorem d_E_mark_0 : decode b_E_mark 0 = .ok (.aload_n 0, 1) := by decide +kernel
theorem d_E_mark_1 : decode b_E_mark 1 = .ok (.getfield 54, 3) := by decide +kernel
theorem d_E_mark_4 : decode b_E_mark 4 = .ok (.bipush 56, 2) := by decide +kernel
theorem d_E_mark_6 : decode b_E_mark 6 = .ok (.lushr, 1) := by decide +kernel
theorem d_E_mark_7 : decode b_E_mark 7 = .ok (.l2i, 1) := by decide +kernel
theorem d_E_mark_8 : decode b_E_mark 8 = .ok (.ireturn, 1) := by decide +kernel
theorem d_E_isTwoDots_0 : decode b_E_isTwoDots 0 = .ok (.aload_n 0, 1) := by decide +kernel
theorem d_E_isTwoDots_1 : decode b_E_isTwoDots 1 = .ok (.invokevirtual 76, 3) := by decide +kernel
theorem d_E_isTwoDots_4 : decode b_E_isTwoDots 4 = .ok (.iconst 2, 1) := by decide +kernel
theorem d_E_isTwoDots_5 : decode b_E_isTwoDots 5 = .ok (.if_icmp .ne 30, 3) := by decide +kernel
theorem d_E_isTwoDots_8 : decode b_E_isTwoDots 8 = .ok (.aload_n 0, 1) := by decide +kernel
theorem d_E_isTwoDots_9 : decode b_E_isTwoDots 9 = .ok (.getfield 9, 3) := by decide +kernel
theorem d_E_isTwoDots_12 : decode b_E_isTwoDots 12 = .ok (.aload_n 0, 1) := by decide +kernel
theorem d_E_isTwoDots_13 : decode b_E_isTwoDots 13 = .ok (.getfield 45, 3) := by decide +kernel
theorem d_E_isTwoDots_16 : decode b_E_isTwoDots 16 = .ok (.ldc2_w 74, 3) := by decide +kernel
theorem d_E_isTwoDots_19 : decode b_E_isTwoDots 19 = .ok (.ladd, 1) := by decide +kernel
theorem d_E_isTwoDots_20 : decode b_E_isTwoDots 20 = .ok (.iconst 2, 1) := by decide +kernel
theorem d_E_isTwoDots_21 : decode b_E_isTwoDots 21 = .ok (.invokevirtual 48, 3) := by decide +kernel
theorem d_E_isTwoDots_24 : decode b_E_isTwoDots 24 = .ok (.ldc2_w 83, 3) := by decide +kernel
theorem d_E_isTwoDots_27 : decode b_E_isTwoDots 27 = .ok (.lcmp, 1) := by decide +kernel
theorem d_E_isTwoDots_28 : decode b_E_isTwoDots 28 = .ok (.ifCond .ne 7, 3) := by decide +kernel
theorem d_E_isTwoDots_31 : decode b_E_isTwoDots 31 = .ok (.iconst 1, 1) := by decide +kernel
theorem d_E_isTwoDots_32 : decode b_E_isTwoDots 32 = .ok (.goto 4, 3) := by decide +kernel
theorem d_E_isTwoDots_35 : decode b_E_isTwoDots 35 = .ok (.iconst 0, 1) := by decide +kernel
theorem d_E_isTwoDots_36 : decode b_E_isTwoDots 36 = .ok (.ireturn, 1) := by decide +kernel
theorem d_E_advance_0 : decode b_E_advance 0 = .ok (.aload_n 0, 1) := by decide +kernel
theorem d_E_advance_1 : decode b_E_advance 1 = .ok (.dup, 1) := by decide +kernel
theorem d_E_advance_2 : decode b_E_advance 2 = .ok (.getfield 33, 3) := by decide +kernel
theorem d_E_advance_5 : decode b_E_advance 5 = .ok (.bipush 12, 2) := by decide +kernel
theorem d_E_advance_7 : decode b_E_advance 7 = .ok (.aload_n 0, 1) := by decide +kernel
theorem d_E_advance_8 : decode b_E_advance 8 = .ok (.invokevirtual 57, 3) := by decide +kernel
theorem d_E_advance_11 : decode b_E_advance 11 = .ok (.invokestatic 61, 3) := by decide +kernel
theorem d_E_advance_14 : decode b_E_advance 14 = .ok (.i2l, 1) := by decide +kernel
theorem d_E_advance_15 : decode b_E_advance 15 = .ok (.ladd, 1) := by decide +kernel
theorem d_E_advance_16 : decode b_E_advance 16 = .ok (.putfield 33, 3) := by decide +kernel
theorem d_E_advance_19 : decode b_E_advance 19 = .ok (.aload_n 0, 1) := by decide +kernel
theorem d_E_advance_20 : decode b_E_advance 20 = .ok (.dup, 1) := by decide +kernel
theorem d_E_advance_21 : decode b_E_advance 21 = .ok (.getfield 36, 3) := by decide +kernel
theorem d_E_advance_24 : decode b_E_advance 24 = .ok (.iconst 1, 1) := by decide +kernel
theorem d_E_advance_25 : decode b_E_advance 25 = .ok (.iadd, 1) := by decide +kernel
theorem d_E_advance_26 : decode b_E_advance 26 = .ok (.putfield 36, 3) := by decide +kernel
theorem d_E_advance_29 : decode b_E_advance 29 = .ok (.aload_n 0, 1) := by decide +kernel
theorem d_E_advance_30 : decode b_E_advance 30 = .ok (.ldc2_w 39, 3) := by decide +kernel
theorem d_E_advance_33 : decode b_E_advance 33 = .ok (.aload_n 0, 1) := by decide +kernel
theorem d_E_advance_34 : decode b_E_advance 34 = .ok (.getfield 15, 3) := by decide +kernel
theorem d_E_advance_37 : decode b_E_advance 37 = .ok (.aload_n 0, 1) := by decide +kernel
theorem d_E_advance_38 : decode b_E_advance 38 = .ok (.getfield 19, 3) := by decide +kernel
theorem d_E_advance_41 : decode b_E_advance 41 = .ok (.aload_n 0, 1) := by decide +kernel
theorem d_E_advance_42 : decode b_E_advance 42 = .ok (.getfield 33, 3) := by decide +kernel
theorem d_E_advance_45 : decode b_E_advance 45 = .ok (.ldc2_w 39, 3) := by decide +kernel
theorem d_E_advance_48 : decode b_E_advance 48 = .ok (.ldiv, 1) := by decide +kernel
theorem d_E_advance_49 : decode b_E_advance 49 = .ok (.l2i, 1) := by decide +kernel
theorem d_E_advance_50 : decode b_E_advance 50 = .ok (.invokevirtual 41, 3) := by decide +kernel
theorem d_E_advance_53 : decode b_E_advance 53 = .ok (.lmul, 1) := by decide +kernel
theorem d_E_advance_54 : decode b_E_advance 54 = .ok (.aload_n 0, 1) := by decide +kernel
theorem d_E_advance_55 : decode b_E_advance 55 = .ok (.getfield 33, 3) := by decide +kernel
theorem d_E_advance_58 : decode b_E_advance 58 = .ok (.ldc2_w 39, 3) := by decide +kernel
theorem d_E_advance_61 : decode b_E_advance 61 = .ok (.lrem, 1) := by decide +kernel
theorem d_E_advance_62 : decode b_E_advance 62 = .ok (.ladd, 1) := by decide +kernel
theorem d_E_advance_63 : decode b_E_advance 63 = .ok (.putfield 45, 3) := by decide +kernel
theorem d_E_advance_66 : decode b_E_advance 66 = .ok (.aload_n 0, 1) := by decide +kernel
theorem d_E_advance_67 : decode b_E_advance 67 = .ok (.aload_n 0, 1) := by decide +kernel
theorem d_E_advance_68 : decode b_E_advance 68 = .ok (.getfield 9, 3) := by decide +kernel
theorem d_E_advance_71 : decode b_E_advance 71 = .ok (.aload_n 0, 1) := by decide +kernel
theorem d_E_advance_72 : decode b_E_advance 72 = .ok (.getfield 45, 3) := by decide +kernel
theorem d_E_advance_75 : decode b_E_advance 75 = .ok (.bipush 8, 2) := by decide +kernel
theorem d_E_advance_77 : decode b_E_advance 77 = .ok (.invokevirtual 48, 3) := by decide +kernel
theorem d_E_advance_80 : decode b_E_advance 80 = .ok (.putfield 54, 3) := by decide +kernel
theorem d_E_advance_83 : decode b_E_advance 83 = .ok (.return_, 1) := by decide +kernel
theorem d_E_isItem_0 : decode b_E_isItem 0 = .ok (.aload_n 0, 1) := by decide +kernel
theorem d_E_isItem_1 : decode b_E_isItem 1 = .ok (.getfield 36, 3) := by decide +kernel
theorem d_E_isItem_4 : decode b_E_isItem 4 = .ok (.iconst 2, 1) := by decide +kernel
theorem d_E_isItem_5 : decode b_E_isItem 5 = .ok (.if_icmp .lt 20, 3) := by decide +kernel
theorem d_E_isItem_8 : decode b_E_isItem 8 = .ok (.aload_n 0, 1) := by decide +kernel
theorem d_E_isItem_9 : decode b_E_isItem 9 = .ok (.getfield 54, 3) := by decide +kernel
theorem d_E_isItem_12 : decode b_E_isItem 12 = .ok (.ldc2_w 67, 3) := by decide +kernel
theorem d_E_isItem_15 : decode b_E_isItem 15 = .ok (.land, 1) := by decide +kernel
theorem d_E_isItem_16 : decode b_E_isItem 16 = .ok (.lconst 0, 1) := by decide +kernel
theorem d_E_isItem_17 : decode b_E_isItem 17 = .ok (.lcmp, 1) := by decide +kernel
theorem d_E_isItem_18 : decode b_E_isItem 18 = .ok (.ifCond .eq 7, 3) := by decide +kernel
theorem d_E_isItem_21 : decode b_E_isItem 21 = .ok (.iconst 1, 1) := by decide +kernel
theorem d_E_isItem_22 : decode b_E_isItem 22 = .ok (.goto 4, 3) := by decide +kernel
theorem d_E_isItem_25 : decode b_E_isItem 25 = .ok (.iconst 0, 1) := by decide +kernel
theorem d_E_isItem_26 : decode b_E_isItem 26 = .ok (.ireturn, 1) := by decide +kernel
theorem d_E_nameByte_0 : decode b_E_nameByte 0 = .ok (.aload_n 0, 1) := by decide +kernel
theorem d_E_nameByte_1 : decode b_E_nameByte 1 = .ok (.getfield 9, 3) := by decide +kernel
theorem d_E_nameByte_4 : decode b_E_nameByte 4 = .ok (.aload_n 0, 1) := by decide +kernel
theorem d_E_nameByte_5 : decode b_E_nameByte 5 = .ok (.getfield 45, 3) := by decide +kernel
theorem d_E_nameByte_8 : decode b_E_nameByte 8 = .ok (.ldc2_w 74, 3) := by decide +kernel
theorem d_E_nameByte_11 : decode b_E_nameByte 11 = .ok (.ladd, 1) := by decide +kernel
theorem d_E_nameByte_12 : decode b_E_nameByte 12 = .ok (.iload_n 1, 1) := by decide +kernel
theorem d_E_nameByte_13 : decode b_E_nameByte 13 = .ok (.i2l, 1) := by decide +kernel
theorem d_E_nameByte_14 : decode b_E_nameByte 14 = .ok (.ladd, 1) := by decide +kernel
theorem d_E_nameByte_15 : decode b_E_nameByte 15 = .ok (.iconst 1, 1) := by decide +kernel
theorem d_E_nameByte_16 : decode b_E_nameByte 16 = .ok (.invokevirtual 48, 3) := by decide +kernel
theorem d_E_nameByte_19 : decode b_E_nameByte 19 = .ok (.l2i, 1) := by decide +kernel
theorem d_E_nameByte_20 : decode b_E_nameByte 20 = .ok (.ireturn, 1) := by decide +kernel
end
section
def f_E_start (NW : Nat) (sz : Int32) (wd : Nat → Int64) (mb : Nat → Int32) (gI : Int32) (dr : Int32) (es : Int64) (of : Int64) (od : Int32) (pl : Int64) (hd : Int64) (a1 : Int32) : Option (Int32 × Int64 × Int64 × Int32 × Int64 × Int64) := bd1 (f_L_sizeOf NW sz wd mb gI a1) (fun (r_1 : Int64) => bd1 (f_L_blockOf NW sz wd mb gI a1 ((0 : Int32))) (fun (r_3 : Int64) => bd1 (f_D_number NW sz wd (((1024 : Int64)) * r_3) ((8 : Int32))) (fun (r_5 : Int64) => some (a1, r_1, (0 : Int64), (0 : Int32), ((1024 : Int64)) * r_3, r_5))))
def f_E_isOn (NW : Nat) (es : Int64) (of : Int64) : Option (Int32) := (if es ≤ of then some ((0 : Int32)) else some ((1 : Int32)))
def f_E_length (NW : Nat) (hd : Int64) : Option (Int32) := some ((Int64.toInt32 (UInt64.toInt64 ((Int64.toUInt64 hd) >>> ((Int64.toUInt64 (Int32.toInt64 ((32 : Int32)))) &&& Int64.toUInt64 63)))) &&& ((65535 : Int32)))
def f_E_fits (NW : Nat) (of : Int64) (hd : Int64) : Option (Int32) := bd1 (f_E_length NW hd) (fun (r_1 : Int32) => (if r_1 < ((12 : Int32)) then some ((0 : Int32)) else (if (r_1 - r_1 / ((4 : Int32)) * ((4 : Int32))) = 0 then (if ((1024 : Int64)) < ((of - of / ((1024 : Int64)) * ((1024 : Int64))) + (Int32.toInt64 r_1)) then some ((0 : Int32)) else some ((1 : Int32))) else some ((0 : Int32)))))
def f_E_isEmpty (NW : Nat) (od : Int32) (hd : Int64) : Option (Int32) := (if od < ((2 : Int32)) then some ((0 : Int32)) else (if (hd &&& ((4294967295 : Int64))) = ((0 : Int64)) then some ((1 : Int32)) else some ((0 : Int32))))
def f_E_hasInode (NW : Nat) (iN : Int32) (hd : Int64) : Option (Int32) := bd1 (f_L_isInode NW iN (hd &&& ((4294967295 : Int64)))) (fun (r_1 : Int32) => if is01 r_1 then some (r_1) else none)
def f_E_nameLength (NW : Nat) (hd : Int64) : Option (Int32) := some ((Int64.toInt32 (UInt64.toInt64 ((Int64.toUInt64 hd) >>> ((Int64.toUInt64 (Int32.toInt64 ((48 : Int32)))) &&& Int64.toUInt64 63)))) &&& ((255 : Int32)))
def f_E_hasName_24 (N : Nat) (NW : Nat) (sz : Int32) (wd : Nat → Int64) (pl : Int64) (hd : Int64) : Nat → Int32 → Int32 → Option (Int32)
  | 0, _, _ => none
  | k+1, x1, x2 => (if x1 ≤ x2 then some ((1 : Int32)) else bd1 (f_D_number NW sz wd ((pl + ((8 : Int64))) + (Int32.toInt64 x2)) ((1 : Int32))) (fun (r_2 : Int64) => (if r_2 = ((0 : Int64)) then some ((0 : Int32)) else (if r_2 = ((47 : Int64)) then some ((0 : Int32)) else lt1 (x2 + (1 : Int32)) (fun (v2_6 : Int32) => (f_E_hasName_24 N NW sz wd pl hd k x1 v2_6))))))
def f_E_hasName (N : Nat) (NW : Nat) (sz : Int32) (wd : Nat → Int64) (pl : Int64) (hd : Int64) : Option (Int32) := bd1 (f_E_nameLength NW hd) (fun (r_1 : Int32) => (if r_1 = 0 then some ((0 : Int32)) else bd1 (f_E_length NW hd) (fun (r_4 : Int32) => (if (((8 : Int32)) + r_1) ≤ r_4 then (f_E_hasName_24 N NW sz wd pl hd N r_1 ((0 : Int32))) else some ((0 : Int32))))))
def f_E_inode (NW : Nat) (hd : Int64) : Option (Int32) := some (Int64.toInt32 hd)
def f_E_order (NW : Nat) (od : Int32) : Option (Int32) := some (od)
def f_E_isOneDot (NW : Nat) (sz : Int32) (wd : Nat → Int64) (pl : Int64) (hd : Int64) : Option (Int32) := bd1 (f_E_nameLength NW hd) (fun (r_1 : Int32) => (if r_1 = ((1 : Int32)) then bd1 (f_D_number NW sz wd (pl + ((8 : Int64))) ((1 : Int32))) (fun (r_4 : Int64) => (if r_4 = ((46 : Int64)) then some ((1 : Int32)) else some ((0 : Int32)))) else some ((0 : Int32))))
def f_E_mark (NW : Nat) (hd : Int64) : Option (Int32) := some (Int64.toInt32 (UInt64.toInt64 ((Int64.toUInt64 hd) >>> ((Int64.toUInt64 (Int32.toInt64 ((56 : Int32)))) &&& Int64.toUInt64 63))))
def f_E_isTwoDots (NW : Nat) (sz : Int32) (wd : Nat → Int64) (pl : Int64) (hd : Int64) : Option (Int32) := bd1 (f_E_nameLength NW hd) (fun (r_1 : Int32) => (if r_1 = ((2 : Int32)) then bd1 (f_D_number NW sz wd (pl + ((8 : Int64))) ((2 : Int32))) (fun (r_4 : Int64) => (if r_4 = ((11822 : Int64)) then some ((1 : Int32)) else some ((0 : Int32)))) else some ((0 : Int32))))
def f_E_advance (NW : Nat) (sz : Int32) (wd : Nat → Int64) (mb : Nat → Int32) (gI : Int32) (dr : Int32) (of : Int64) (od : Int32) (pl : Int64) (hd : Int64) : Option (Int64 × Int32 × Int64 × Int64) := bd1 (f_E_length NW hd) (fun (r_1 : Int32) => bd1 (f_L_blockOf NW sz wd mb gI dr (Int64.toInt32 ((of + (Int32.toInt64 (if ((12 : Int32)) < r_1 then r_1 else ((12 : Int32))))) / ((1024 : Int64))))) (fun (r_3 : Int64) => bd1 (f_D_number NW sz wd ((((1024 : Int64)) * r_3) + ((of + (Int32.toInt64 (if ((12 : Int32)) < r_1 then r_1 else ((12 : Int32))))) - (of + (Int32.toInt64 (if ((12 : Int32)) < r_1 then r_1 else ((12 : Int32))))) / ((1024 : Int64)) * ((1024 : Int64)))) ((8 : Int32))) (fun (r_5 : Int64) => some (of + (Int32.toInt64 (if ((12 : Int32)) < r_1 then r_1 else ((12 : Int32)))), od + ((1 : Int32)), (((1024 : Int64)) * r_3) + ((of + (Int32.toInt64 (if ((12 : Int32)) < r_1 then r_1 else ((12 : Int32))))) - (of + (Int32.toInt64 (if ((12 : Int32)) < r_1 then r_1 else ((12 : Int32))))) / ((1024 : Int64)) * ((1024 : Int64))), r_5))))
def f_E_isItem (NW : Nat) (od : Int32) (hd : Int64) : Option (Int32) := (if od < ((2 : Int32)) then some ((0 : Int32)) else (if (hd &&& ((4294967295 : Int64))) = ((0 : Int64)) then some ((0 : Int32)) else some ((1 : Int32))))
def f_E_nameByte (NW : Nat) (sz : Int32) (wd : Nat → Int64) (pl : Int64) (a1 : Int32) : Option (Int32) := bd1 (f_D_number NW sz wd ((pl + ((8 : Int64))) + (Int32.toInt64 a1)) ((1 : Int32))) (fun (r_1 : Int64) => some (Int64.toInt32 r_1))
end
section
set_option maxHeartbeats 4000000 in
set_option maxRecDepth 100000 in
theorem c_E_start {l : Launch} {dC : Nat → ClassId} {dI : Nat → Nat → Nat} {h : Nat → Nat} {cI : ClassId} {cL : ClassId} {NW : Nat} {bk : Int32} {sz : Int32} {wd : Nat → Int64} {mb : Nat → Int32} {gB : Int32} {gI : Int32} {gN : Int32} {iN : Int32} {dr : Int32} {es : Int64} {of : Int64} {od : Int32} {pl : Int64} {hd : Int64} {tk : Nat → Int32} {kn : Nat → Int32} {li : Nat → Int32} {pa : Nat → Int32} {ins : Nat → Int32} {cm : Int32} {fd : Int32} {hr : Int32} {hs : Nat} {a1 : Int32} {dr' : Int32} {es' : Int64} {of' : Int64} {od' : Int32} {pl' : Int64} {hd' : Int64} (hf : f_E_start NW sz wd mb gI dr es of od pl hd a1 = some (dr', es', of', od', pl', hd')) : Met l y_E_start ws_E_start { frames := 2, cells := 0, slots := 0, locals := 56 } (PcU (dC, dI) clAll [(cI, .int), (cL, .long)] (wC h cI cL NW bk sz wd mb gB gI gN iN dr es of od pl hd tk kn li pa ins cm fd hr) hs [.ref (h 5), .int a1]) (QUv (dC, dI) clAll [(cI, .int), (cL, .long)] (wC h cI cL NW bk sz wd mb gB gI gN iN dr es of od pl hd tk kn li pa ins cm fd hr) (wC h cI cL NW bk sz wd mb gB gI gN iN dr' es' of' od' pl' hd' tk kn li pa ins cm fd hr) hs) 0 0 (va_A (wC h cI cL NW bk sz wd mb gB gI gN iN dr es of od pl hd tk kn li pa ins cm fd hr) hs) := by
  refine mUv (cc := b_E_start) (maxL := 2) (by decide) rfl (Nat.le_of_ble_eq_true rfl) ?_
  intro p e s m args below meth c Q hx hb hml hts hown A hA hK hP hD hS hret ls hl
  have htb : ∀ w ∈ TB, w.before args s = true := fun w h => hts w (List.mem_cons_of_mem _ h)
  have hl : lv_has ls 2 [(0, .ref (h 5)), (1, .int a1)] := hl
  unfold f_E_start at hf
  refine lv_aload_n hx hb d_E_start_0 rfl (lv_at hl 0 rfl) ?_
  refine lv_iload_n hx hb d_E_start_1 rfl (lv_at hl 1 rfl) ?_
  refine va_put (D := (dC, dI)) (ci := 1) (v := .int a1) (ty := .int) (C := R_E) (T := T_E) (N := 8) hx hb htb in_E ty_E tyok_E nm_E hown hK hP hD hS 5 rfl rfl 2 (by decide) (htb _ tw_147) (fun _ h9 => h9) rfl (by decide +kernel) rfl rfl (Nat.le_of_ble_eq_true rfl) d_E_start_2 (fun H locs hP hD hS => ?_)
  have hP : va_P (dC, dI) clAll (wC h cI cL NW bk sz wd mb gB gI gN iN a1 es of od pl hd tk kn li pa ins cm fd hr) H := hP
  have hD : va_D A (wC h cI cL NW bk sz wd mb gB gI gN iN a1 es of od pl hd tk kn li pa ins cm fd hr) := hD
  refine lv_aload_n hx hb d_E_start_5 rfl (lv_at hl 0 rfl) ?_
  refine lv_aload_n hx hb d_E_start_6 rfl (lv_at hl 0 rfl) ?_
  refine va_get (D := (dC, dI)) (ci := 1) (v := .ref (h 3)) (C := R_E) (T := T_E) (N := 8) hx hb htb in_E hown hK hP 5 rfl rfl 1 (by decide) (htb _ tw_146) (fun _ h9 => h9) rfl d_E_start_7 ?_
  refine lv_iload_n hx hb d_E_start_10 rfl (lv_at hl 1 rfl) ?_
  obtain ⟨r_1, hc_2, hf⟩ := bd1_s hf
  refine ucVl (As := [.int a1]) (rest := [.ref (h 5)]) ⟨hx, hb, hml, hown, htb⟩ hK hP hD hS hA (fun hs => c_L_sizeOf hc_2) (cwV 1 htb (gV tw_437 tw_393 tw_394 tw_71 tw_395) rfl rfl rfl (by decide +kernel) ⟨Nat.le_of_ble_eq_true rfl, Nat.le_of_ble_eq_true rfl⟩) 3 2 rfl rfl rfl rfl rfl hl.1 (Nat.le_of_ble_eq_true rfl) d_E_start_11 ⟨Nat.zero_le _, Nat.zero_le _⟩ (fun H locs hP hD hS => ?_)
  refine va_put (D := (dC, dI)) (ci := 1) (v := .long r_1) (ty := .long) (C := R_E) (T := T_E) (N := 8) hx hb htb in_E ty_E tyok_E nm_E hown hK hP hD hS 5 rfl rfl 3 (by decide) (htb _ tw_148) (fun _ h9 => h9) rfl (by decide +kernel) rfl rfl (Nat.le_of_ble_eq_true rfl) d_E_start_14 (fun H locs hP hD hS => ?_)
  have hP : va_P (dC, dI) clAll (wC h cI cL NW bk sz wd mb gB gI gN iN a1 r_1 of od pl hd tk kn li pa ins cm fd hr) H := hP
  have hD : va_D A (wC h cI cL NW bk sz wd mb gB gI gN iN a1 r_1 of od pl hd tk kn li pa ins cm fd hr) := hD
  refine lv_aload_n hx hb d_E_start_17 rfl (lv_at hl 0 rfl) ?_
  refine lv_lconst (v := 0) hx hb d_E_start_18 (by decide) ?_
  refine va_put (D := (dC, dI)) (ci := 1) (v := .long ((0 : Int64))) (ty := .long) (C := R_E) (T := T_E) (N := 8) hx hb htb in_E ty_E tyok_E nm_E hown hK hP hD hS 5 rfl rfl 4 (by decide) (htb _ tw_149) (fun _ h9 => h9) rfl (by decide +kernel) rfl rfl (Nat.le_of_ble_eq_true rfl) d_E_start_19 (fun H locs hP hD hS => ?_)
  have hP : va_P (dC, dI) clAll (wC h cI cL NW bk sz wd mb gB gI gN iN a1 r_1 ((0 : Int64)) od pl hd tk kn li pa ins cm fd hr) H := hP
  have hD : va_D A (wC h cI cL NW bk sz wd mb gB gI gN iN a1 r_1 ((0 : Int64)) od pl hd tk kn li pa ins cm fd hr) := hD
  refine lv_aload_n hx hb d_E_start_22 rfl (lv_at hl 0 rfl) ?_
  refine lv_iconst (v := 0) hx hb d_E_start_23 (by decide) ?_
  refine va_put (D := (dC, dI)) (ci := 1) (v := .int ((0 : Int32))) (ty := .int) (C := R_E) (T := T_E) (N := 8) hx hb htb in_E ty_E tyok_E nm_E hown hK hP hD hS 5 rfl rfl 5 (by decide) (htb _ tw_150) (fun _ h9 => h9) rfl (by decide +kernel) rfl rfl (Nat.le_of_ble_eq_true rfl) d_E_start_24 (fun H locs hP hD hS => ?_)
  have hP : va_P (dC, dI) clAll (wC h cI cL NW bk sz wd mb gB gI gN iN a1 r_1 ((0 : Int64)) ((0 : Int32)) pl hd tk kn li pa ins cm fd hr) H := hP
  have hD : va_D A (wC h cI cL NW bk sz wd mb gB gI gN iN a1 r_1 ((0 : Int64)) ((0 : Int32)) pl hd tk kn li pa ins cm fd hr) := hD
  refine lv_aload_n hx hb d_E_start_27 rfl (lv_at hl 0 rfl) ?_
  refine lv_ldc2 (v := 1024) hx hb hown (htb _ tw_438) d_E_start_28 ?_
  refine lv_aload_n hx hb d_E_start_31 rfl (lv_at hl 0 rfl) ?_
  refine va_get (D := (dC, dI)) (ci := 1) (v := .ref (h 3)) (C := R_E) (T := T_E) (N := 8) hx hb htb in_E hown hK hP 5 rfl rfl 1 (by decide) (htb _ tw_146) (fun _ h9 => h9) rfl d_E_start_32 ?_
  refine lv_iload_n hx hb d_E_start_35 rfl (lv_at hl 1 rfl) ?_
  refine lv_iconst (v := 0) hx hb d_E_start_36 (by decide) ?_
  obtain ⟨r_3, hc_4, hf⟩ := bd1_s hf
  refine ucVl (As := [.int a1, .int ((0 : Int32))]) (rest := [.long ((1024 : Int64)), .ref (h 5)]) ⟨hx, hb, hml, hown, htb⟩ hK hP hD hS hA (fun hs => c_L_blockOf hc_4) (cwV 2 htb (gV tw_439 tw_419 tw_420 tw_71 tw_421) rfl rfl rfl (by decide +kernel) ⟨Nat.le_of_ble_eq_true rfl, Nat.le_of_ble_eq_true rfl⟩) 3 2 rfl rfl rfl rfl rfl hl.1 (Nat.le_of_ble_eq_true rfl) d_E_start_37 ⟨Nat.zero_le _, Nat.zero_le _⟩ (fun H locs hP hD hS => ?_)
  refine lv_lmul hx hb d_E_start_40 ?_
  refine va_put (D := (dC, dI)) (ci := 1) (v := .long (((1024 : Int64)) * r_3)) (ty := .long) (C := R_E) (T := T_E) (N := 8) hx hb htb in_E ty_E tyok_E nm_E hown hK hP hD hS 5 rfl rfl 6 (by decide) (htb _ tw_151) (fun _ h9 => h9) rfl (by decide +kernel) rfl rfl (Nat.le_of_ble_eq_true rfl) d_E_start_41 (fun H locs hP hD hS => ?_)
  have hP : va_P (dC, dI) clAll (wC h cI cL NW bk sz wd mb gB gI gN iN a1 r_1 ((0 : Int64)) ((0 : Int32)) (((1024 : Int64)) * r_3) hd tk kn li pa ins cm fd hr) H := hP
  have hD : va_D A (wC h cI cL NW bk sz wd mb gB gI gN iN a1 r_1 ((0 : Int64)) ((0 : Int32)) (((1024 : Int64)) * r_3) hd tk kn li pa ins cm fd hr) := hD
  refine lv_aload_n hx hb d_E_start_44 rfl (lv_at hl 0 rfl) ?_
  refine lv_aload_n hx hb d_E_start_45 rfl (lv_at hl 0 rfl) ?_
  refine va_get (D := (dC, dI)) (ci := 1) (v := .ref (h 1)) (C := R_E) (T := T_E) (N := 8) hx hb htb in_E hown hK hP 5 rfl rfl 0 (by decide) (htb _ tw_145) (fun _ h9 => h9) rfl d_E_start_46 ?_
  refine lv_aload_n hx hb d_E_start_49 rfl (lv_at hl 0 rfl) ?_
  refine va_get (D := (dC, dI)) (ci := 1) (v := .long (((1024 : Int64)) * r_3)) (C := R_E) (T := T_E) (N := 8) hx hb htb in_E hown hK hP 5 rfl rfl 6 (by decide) (htb _ tw_151) (fun _ h9 => h9) rfl d_E_start_50 ?_
  refine lv_bipush (v := 8) hx hb d_E_start_53 (by decide) ?_
  obtain ⟨r_5, hc_6, hf⟩ := bd1_s hf
  refine ucVl (As := [.long (((1024 : Int64)) * r_3), .int ((8 : Int32))]) (rest := [.ref (h 5)]) ⟨hx, hb, hml, hown, htb⟩ hK hP hD hS hA (fun hs => c_D_number hc_6) (cwV 2 htb (gV tw_440 tw_264 tw_265 tw_69 tw_266) rfl rfl rfl (by decide +kernel) ⟨Nat.le_of_ble_eq_true rfl, Nat.le_of_ble_eq_true rfl⟩) 1 0 rfl rfl rfl rfl rfl hl.1 (Nat.le_of_ble_eq_true rfl) d_E_start_55 ⟨Nat.zero_le _, Nat.zero_le _⟩ (fun H locs hP hD hS => ?_)
  refine va_put (D := (dC, dI)) (ci := 1) (v := .long r_5) (ty := .long) (C := R_E) (T := T_E) (N := 8) hx hb htb in_E ty_E tyok_E nm_E hown hK hP hD hS 5 rfl rfl 7 (by decide) (htb _ tw_152) (fun _ h9 => h9) rfl (by decide +kernel) rfl rfl (Nat.le_of_ble_eq_true rfl) d_E_start_58 (fun H locs hP hD hS => ?_)
  have hP : va_P (dC, dI) clAll (wC h cI cL NW bk sz wd mb gB gI gN iN a1 r_1 ((0 : Int64)) ((0 : Int32)) (((1024 : Int64)) * r_3) r_5 tk kn li pa ins cm fd hr) H := hP
  have hD : va_D A (wC h cI cL NW bk sz wd mb gB gI gN iN a1 r_1 ((0 : Int64)) ((0 : Int32)) (((1024 : Int64)) * r_3) r_5 tk kn li pa ins cm fd hr) := hD
  cases hf
  exact hret _ _ _ _ hP hD hS d_E_start_61
set_option maxHeartbeats 4000000 in
set_option maxRecDepth 100000 in
theorem c_E_isOn {l : Launch} {dC : Nat → ClassId} {dI : Nat → Nat → Nat} {h : Nat → Nat} {cI : ClassId} {cL : ClassId} {NW : Nat} {bk : Int32} {sz : Int32} {wd : Nat → Int64} {mb : Nat → Int32} {gB : Int32} {gI : Int32} {gN : Int32} {iN : Int32} {dr : Int32} {es : Int64} {of : Int64} {od : Int32} {pl : Int64} {hd : Int64} {tk : Nat → Int32} {kn : Nat → Int32} {li : Nat → Int32} {pa : Nat → Int32} {ins : Nat → Int32} {cm : Int32} {fd : Int32} {hr : Int32} {hs : Nat} {r : Int32} (hf : f_E_isOn NW es of = some (r)) : Met l y_E_isOn ws_E_isOn { frames := 0, cells := 0, slots := 0, locals := 0 } (PcU (dC, dI) clAll [(cI, .int), (cL, .long)] (wC h cI cL NW bk sz wd mb gB gI gN iN dr es of od pl hd tk kn li pa ins cm fd hr) hs [.ref (h 5)]) (QUi (dC, dI) clAll [(cI, .int), (cL, .long)] (wC h cI cL NW bk sz wd mb gB gI gN iN dr es of od pl hd tk kn li pa ins cm fd hr) (wC h cI cL NW bk sz wd mb gB gI gN iN dr es of od pl hd tk kn li pa ins cm fd hr) hs r) 0 0 (va_A (wC h cI cL NW bk sz wd mb gB gI gN iN dr es of od pl hd tk kn li pa ins cm fd hr) hs) := by
  refine mUz (cc := b_E_isOn) (maxL := 1) (by decide) rfl (Nat.le_of_ble_eq_true rfl) ?_
  intro p e s m args below meth c Q hx hb hml hts hown A hA hK hP hD hS hret ls hl
  have htb : ∀ w ∈ TB, w.before args s = true := fun w h => hts w (List.mem_cons_of_mem _ h)
  have hl : lv_has ls 1 [(0, .ref (h 5))] := hl
  unfold f_E_isOn at hf
  refine lv_aload_n hx hb d_E_isOn_0 rfl (lv_at hl 0 rfl) ?_
  refine va_get (D := (dC, dI)) (ci := 1) (v := .long of) (C := R_E) (T := T_E) (N := 8) hx hb htb in_E hown hK hP 5 rfl rfl 4 (by decide) (htb _ tw_149) (fun _ h9 => h9) rfl d_E_isOn_1 ?_
  refine lv_aload_n hx hb d_E_isOn_4 rfl (lv_at hl 0 rfl) ?_
  refine va_get (D := (dC, dI)) (ci := 1) (v := .long es) (C := R_E) (T := T_E) (N := 8) hx hb htb in_E hown hK hP 5 rfl rfl 3 (by decide) (htb _ tw_148) (fun _ h9 => h9) rfl d_E_isOn_5 ?_
  refine lc_ge (tgt := 16) hx hb d_E_isOn_8 d_E_isOn_9 (by decide) (fun c_1 => ?_) (fun c_1 => ?_)
  · have hf := ite_t c_1 hf
    refine lv_iconst (v := 0) hx hb d_E_isOn_16 (by decide) ?_
    cases hf
    exact hret _ _ _ _ (Or.inl rfl) hP hD hS d_E_isOn_17
  · have hf := ite_f c_1 hf
    refine lv_iconst (v := 1) hx hb d_E_isOn_12 (by decide) ?_
    refine lv_goto (tgt := 17) hx hb d_E_isOn_13 (by decide) ?_
    cases hf
    exact hret _ _ _ _ (Or.inr rfl) hP hD hS d_E_isOn_17
set_option maxHeartbeats 4000000 in
set_option maxRecDepth 100000 in
theorem c_E_length {l : Launch} {dC : Nat → ClassId} {dI : Nat → Nat → Nat} {h : Nat → Nat} {cI : ClassId} {cL : ClassId} {NW : Nat} {bk : Int32} {sz : Int32} {wd : Nat → Int64} {mb : Nat → Int32} {gB : Int32} {gI : Int32} {gN : Int32} {iN : Int32} {dr : Int32} {es : Int64} {of : Int64} {od : Int32} {pl : Int64} {hd : Int64} {tk : Nat → Int32} {kn : Nat → Int32} {li : Nat → Int32} {pa : Nat → Int32} {ins : Nat → Int32} {cm : Int32} {fd : Int32} {hr : Int32} {hs : Nat} {r : Int32} (hf : f_E_length NW hd = some (r)) : Met l y_E_length ws_E_length { frames := 0, cells := 0, slots := 0, locals := 0 } (PcU (dC, dI) clAll [(cI, .int), (cL, .long)] (wC h cI cL NW bk sz wd mb gB gI gN iN dr es of od pl hd tk kn li pa ins cm fd hr) hs [.ref (h 5)]) (QUi (dC, dI) clAll [(cI, .int), (cL, .long)] (wC h cI cL NW bk sz wd mb gB gI gN iN dr es of od pl hd tk kn li pa ins cm fd hr) (wC h cI cL NW bk sz wd mb gB gI gN iN dr es of od pl hd tk kn li pa ins cm fd hr) hs r) 0 0 (va_A (wC h cI cL NW bk sz wd mb gB gI gN iN dr es of od pl hd tk kn li pa ins cm fd hr) hs) := by
  refine mUi (cc := b_E_length) (maxL := 1) (by decide) rfl (Nat.le_of_ble_eq_true rfl) ?_
  intro p e s m args below meth c Q hx hb hml hts hown A hA hK hP hD hS hret ls hl
  have htb : ∀ w ∈ TB, w.before args s = true := fun w h => hts w (List.mem_cons_of_mem _ h)
  have hl : lv_has ls 1 [(0, .ref (h 5))] := hl
  unfold f_E_length at hf
  refine lv_aload_n hx hb d_E_length_0 rfl (lv_at hl 0 rfl) ?_
  refine va_get (D := (dC, dI)) (ci := 1) (v := .long hd) (C := R_E) (T := T_E) (N := 8) hx hb htb in_E hown hK hP 5 rfl rfl 7 (by decide) (htb _ tw_152) (fun _ h9 => h9) rfl d_E_length_1 ?_
  refine lv_bipush (v := 32) hx hb d_E_length_4 (by decide) ?_
  refine lv_lushr hx hb d_E_length_6 rfl ?_
  refine lv_l2i hx hb d_E_length_7 rfl ?_
  refine lv_ldc (v := 65535) hx hb hown (htb _ tw_454) d_E_length_8 ?_
  refine lv_iand hx hb d_E_length_10 ?_
  cases hf
  exact hret _ _ _ _ hP hD hS d_E_length_11
set_option maxHeartbeats 4000000 in
set_option maxRecDepth 100000 in
theorem c_E_fits {l : Launch} {dC : Nat → ClassId} {dI : Nat → Nat → Nat} {h : Nat → Nat} {cI : ClassId} {cL : ClassId} {NW : Nat} {bk : Int32} {sz : Int32} {wd : Nat → Int64} {mb : Nat → Int32} {gB : Int32} {gI : Int32} {gN : Int32} {iN : Int32} {dr : Int32} {es : Int64} {of : Int64} {od : Int32} {pl : Int64} {hd : Int64} {tk : Nat → Int32} {kn : Nat → Int32} {li : Nat → Int32} {pa : Nat → Int32} {ins : Nat → Int32} {cm : Int32} {fd : Int32} {hr : Int32} {hs : Nat} {r : Int32} (hf : f_E_fits NW of hd = some (r)) : Met l y_E_fits ws_E_fits { frames := 1, cells := 0, slots := 0, locals := 20 } (PcU (dC, dI) clAll [(cI, .int), (cL, .long)] (wC h cI cL NW bk sz wd mb gB gI gN iN dr es of od pl hd tk kn li pa ins cm fd hr) hs [.ref (h 5)]) (QUi (dC, dI) clAll [(cI, .int), (cL, .long)] (wC h cI cL NW bk sz wd mb gB gI gN iN dr es of od pl hd tk kn li pa ins cm fd hr) (wC h cI cL NW bk sz wd mb gB gI gN iN dr es of od pl hd tk kn li pa ins cm fd hr) hs r) 0 0 (va_A (wC h cI cL NW bk sz wd mb gB gI gN iN dr es of od pl hd tk kn li pa ins cm fd hr) hs) := by
  refine mUz (cc := b_E_fits) (maxL := 2) (by decide) rfl (Nat.le_of_ble_eq_true rfl) ?_
  intro p e s m args below meth c Q hx hb hml hts hown A hA hK hP hD hS hret ls hl
  have htb : ∀ w ∈ TB, w.before args s = true := fun w h => hts w (List.mem_cons_of_mem _ h)
  have hl : lv_has ls 2 [(0, .ref (h 5))] := hl
  unfold f_E_fits at hf
  refine lv_aload_n hx hb d_E_fits_0 rfl (lv_at hl 0 rfl) ?_
  obtain ⟨r_1, hc_2, hf⟩ := bd1_s hf
  refine ucVi (As := []) (rest := []) ⟨hx, hb, hml, hown, htb⟩ hK hP hD hS hA (fun hs => c_E_length hc_2) (cwV 0 htb (gV tw_450 tw_451 tw_452 tw_72 tw_453) rfl rfl rfl (by decide +kernel) ⟨Nat.le_of_ble_eq_true rfl, Nat.le_of_ble_eq_true rfl⟩) 5 1 rfl rfl rfl rfl rfl hl.1 (Nat.le_of_ble_eq_true rfl) d_E_fits_1 ⟨Nat.zero_le _, Nat.zero_le _⟩ (fun H locs hP hD hS => ?_)
  refine lv_istore_n (lv' := [(1, .int r_1), (0, .ref (h 5))]) hx hb d_E_fits_4 rfl hl (by decide) rfl (fun ls hl => ?_)
  refine lv_iload_n hx hb d_E_fits_5 rfl (lv_at hl 0 rfl) ?_
  refine lv_bipush (v := 12) hx hb d_E_fits_6 (by decide) ?_
  refine lv_icmp_lt (tgt := 39) hx hb d_E_fits_8 (by decide) (fun c_3 => ?_) (fun c_3 => ?_)
  · have hf := ite_t c_3 hf
    refine lv_iconst (v := 0) hx hb d_E_fits_39 (by decide) ?_
    cases hf
    exact hret _ _ _ _ (Or.inl rfl) hP hD hS d_E_fits_40
  · have hf := ite_f c_3 hf
    refine lv_iload_n hx hb d_E_fits_11 rfl (lv_at hl 0 rfl) ?_
    refine lv_iconst (v := 4) hx hb d_E_fits_12 (by decide) ?_
    refine lv_irem hx hb d_E_fits_13 (by decide) ?_
    refine lv_if_ne (tgt := 39) hx hb d_E_fits_14 (by decide) (fun c_4 => ?_) (fun c_4 => ?_)
    · have hf := ite_f c_4 hf
      refine lv_iconst (v := 0) hx hb d_E_fits_39 (by decide) ?_
      cases hf
      exact hret _ _ _ _ (Or.inl rfl) hP hD hS d_E_fits_40
    · have hf := ite_t c_4 hf
      refine lv_aload_n hx hb d_E_fits_17 rfl (lv_at hl 1 rfl) ?_
      refine va_get (D := (dC, dI)) (ci := 1) (v := .long of) (C := R_E) (T := T_E) (N := 8) hx hb htb in_E hown hK hP 5 rfl rfl 4 (by decide) (htb _ tw_149) (fun _ h9 => h9) rfl d_E_fits_18 ?_
      refine lv_ldc2 (v := 1024) hx hb hown (htb _ tw_438) d_E_fits_21 ?_
      refine lv_lrem hx hb d_E_fits_24 (by decide) ?_
      refine lv_iload_n hx hb d_E_fits_25 rfl (lv_at hl 0 rfl) ?_
      refine lv_i2l hx hb d_E_fits_26 rfl ?_
      refine lv_ladd hx hb d_E_fits_27 ?_
      refine lv_ldc2 (v := 1024) hx hb hown (htb _ tw_438) d_E_fits_28 ?_
      refine lc_gt (tgt := 39) hx hb d_E_fits_31 d_E_fits_32 (by decide) (fun c_5 => ?_) (fun c_5 => ?_)
      · have hf := ite_t c_5 hf
        refine lv_iconst (v := 0) hx hb d_E_fits_39 (by decide) ?_
        cases hf
        exact hret _ _ _ _ (Or.inl rfl) hP hD hS d_E_fits_40
      · have hf := ite_f c_5 hf
        refine lv_iconst (v := 1) hx hb d_E_fits_35 (by decide) ?_
        refine lv_goto (tgt := 40) hx hb d_E_fits_36 (by decide) ?_
        cases hf
        exact hret _ _ _ _ (Or.inr rfl) hP hD hS d_E_fits_40
set_option maxHeartbeats 4000000 in
set_option maxRecDepth 100000 in
theorem c_E_isEmpty {l : Launch} {dC : Nat → ClassId} {dI : Nat → Nat → Nat} {h : Nat → Nat} {cI : ClassId} {cL : ClassId} {NW : Nat} {bk : Int32} {sz : Int32} {wd : Nat → Int64} {mb : Nat → Int32} {gB : Int32} {gI : Int32} {gN : Int32} {iN : Int32} {dr : Int32} {es : Int64} {of : Int64} {od : Int32} {pl : Int64} {hd : Int64} {tk : Nat → Int32} {kn : Nat → Int32} {li : Nat → Int32} {pa : Nat → Int32} {ins : Nat → Int32} {cm : Int32} {fd : Int32} {hr : Int32} {hs : Nat} {r : Int32} (hf : f_E_isEmpty NW od hd = some (r)) : Met l y_E_isEmpty ws_E_isEmpty { frames := 0, cells := 0, slots := 0, locals := 0 } (PcU (dC, dI) clAll [(cI, .int), (cL, .long)] (wC h cI cL NW bk sz wd mb gB gI gN iN dr es of od pl hd tk kn li pa ins cm fd hr) hs [.ref (h 5)]) (QUi (dC, dI) clAll [(cI, .int), (cL, .long)] (wC h cI cL NW bk sz wd mb gB gI gN iN dr es of od pl hd tk kn li pa ins cm fd hr) (wC h cI cL NW bk sz wd mb gB gI gN iN dr es of od pl hd tk kn li pa ins cm fd hr) hs r) 0 0 (va_A (wC h cI cL NW bk sz wd mb gB gI gN iN dr es of od pl hd tk kn li pa ins cm fd hr) hs) := by
  refine mUz (cc := b_E_isEmpty) (maxL := 1) (by decide) rfl (Nat.le_of_ble_eq_true rfl) ?_
  intro p e s m args below meth c Q hx hb hml hts hown A hA hK hP hD hS hret ls hl
  have htb : ∀ w ∈ TB, w.before args s = true := fun w h => hts w (List.mem_cons_of_mem _ h)
  have hl : lv_has ls 1 [(0, .ref (h 5))] := hl
  unfold f_E_isEmpty at hf
  refine lv_aload_n hx hb d_E_isEmpty_0 rfl (lv_at hl 0 rfl) ?_
  refine va_get (D := (dC, dI)) (ci := 1) (v := .int od) (C := R_E) (T := T_E) (N := 8) hx hb htb in_E hown hK hP 5 rfl rfl 5 (by decide) (htb _ tw_150) (fun _ h9 => h9) rfl d_E_isEmpty_1 ?_
  refine lv_iconst (v := 2) hx hb d_E_isEmpty_4 (by decide) ?_
  refine lv_icmp_lt (tgt := 25) hx hb d_E_isEmpty_5 (by decide) (fun c_1 => ?_) (fun c_1 => ?_)
  · have hf := ite_t c_1 hf
    refine lv_iconst (v := 0) hx hb d_E_isEmpty_25 (by decide) ?_
    cases hf
    exact hret _ _ _ _ (Or.inl rfl) hP hD hS d_E_isEmpty_26
  · have hf := ite_f c_1 hf
    refine lv_aload_n hx hb d_E_isEmpty_8 rfl (lv_at hl 0 rfl) ?_
    refine va_get (D := (dC, dI)) (ci := 1) (v := .long hd) (C := R_E) (T := T_E) (N := 8) hx hb htb in_E hown hK hP 5 rfl rfl 7 (by decide) (htb _ tw_152) (fun _ h9 => h9) rfl d_E_isEmpty_9 ?_
    refine lv_ldc2 (v := 4294967295) hx hb hown (htb _ tw_459) d_E_isEmpty_12 ?_
    refine lv_land hx hb d_E_isEmpty_15 ?_
    refine lv_lconst (v := 0) hx hb d_E_isEmpty_16 (by decide) ?_
    refine lc_ne (tgt := 25) hx hb d_E_isEmpty_17 d_E_isEmpty_18 (by decide) (fun c_2 => ?_) (fun c_2 => ?_)
    · have hf := ite_f c_2 hf
      refine lv_iconst (v := 0) hx hb d_E_isEmpty_25 (by decide) ?_
      cases hf
      exact hret _ _ _ _ (Or.inl rfl) hP hD hS d_E_isEmpty_26
    · have hf := ite_t c_2 hf
      refine lv_iconst (v := 1) hx hb d_E_isEmpty_21 (by decide) ?_
      refine lv_goto (tgt := 26) hx hb d_E_isEmpty_22 (by decide) ?_
      cases hf
      exact hret _ _ _ _ (Or.inr rfl) hP hD hS d_E_isEmpty_26
set_option maxHeartbeats 4000000 in
set_option maxRecDepth 100000 in
theorem c_E_hasInode {l : Launch} {dC : Nat → ClassId} {dI : Nat → Nat → Nat} {h : Nat → Nat} {cI : ClassId} {cL : ClassId} {NW : Nat} {bk : Int32} {sz : Int32} {wd : Nat → Int64} {mb : Nat → Int32} {gB : Int32} {gI : Int32} {gN : Int32} {iN : Int32} {dr : Int32} {es : Int64} {of : Int64} {od : Int32} {pl : Int64} {hd : Int64} {tk : Nat → Int32} {kn : Nat → Int32} {li : Nat → Int32} {pa : Nat → Int32} {ins : Nat → Int32} {cm : Int32} {fd : Int32} {hr : Int32} {hs : Nat} {r : Int32} (hf : f_E_hasInode NW iN hd = some (r)) : Met l y_E_hasInode ws_E_hasInode { frames := 1, cells := 0, slots := 0, locals := 22 } (PcU (dC, dI) clAll [(cI, .int), (cL, .long)] (wC h cI cL NW bk sz wd mb gB gI gN iN dr es of od pl hd tk kn li pa ins cm fd hr) hs [.ref (h 5)]) (QUi (dC, dI) clAll [(cI, .int), (cL, .long)] (wC h cI cL NW bk sz wd mb gB gI gN iN dr es of od pl hd tk kn li pa ins cm fd hr) (wC h cI cL NW bk sz wd mb gB gI gN iN dr es of od pl hd tk kn li pa ins cm fd hr) hs r) 0 0 (va_A (wC h cI cL NW bk sz wd mb gB gI gN iN dr es of od pl hd tk kn li pa ins cm fd hr) hs) := by
  refine mUz (cc := b_E_hasInode) (maxL := 1) (by decide) rfl (Nat.le_of_ble_eq_true rfl) ?_
  intro p e s m args below meth c Q hx hb hml hts hown A hA hK hP hD hS hret ls hl
  have htb : ∀ w ∈ TB, w.before args s = true := fun w h => hts w (List.mem_cons_of_mem _ h)
  have hl : lv_has ls 1 [(0, .ref (h 5))] := hl
  unfold f_E_hasInode at hf
  refine lv_aload_n hx hb d_E_hasInode_0 rfl (lv_at hl 0 rfl) ?_
  refine va_get (D := (dC, dI)) (ci := 1) (v := .ref (h 3)) (C := R_E) (T := T_E) (N := 8) hx hb htb in_E hown hK hP 5 rfl rfl 1 (by decide) (htb _ tw_146) (fun _ h9 => h9) rfl d_E_hasInode_1 ?_
  refine lv_aload_n hx hb d_E_hasInode_4 rfl (lv_at hl 0 rfl) ?_
  refine va_get (D := (dC, dI)) (ci := 1) (v := .long hd) (C := R_E) (T := T_E) (N := 8) hx hb htb in_E hown hK hP 5 rfl rfl 7 (by decide) (htb _ tw_152) (fun _ h9 => h9) rfl d_E_hasInode_5 ?_
  refine lv_ldc2 (v := 4294967295) hx hb hown (htb _ tw_459) d_E_hasInode_8 ?_
  refine lv_land hx hb d_E_hasInode_11 ?_
  obtain ⟨r_1, hc_2, hf⟩ := bd1_s hf
  refine ucVi (As := [.long (hd &&& ((4294967295 : Int64)))]) (rest := []) ⟨hx, hb, hml, hown, htb⟩ hK hP hD hS hA (fun hs => c_L_isInode hc_2) (cwV 1 htb (gV tw_468 tw_469 tw_470 tw_71 tw_471) rfl rfl rfl (by decide +kernel) ⟨Nat.le_of_ble_eq_true rfl, Nat.le_of_ble_eq_true rfl⟩) 3 2 rfl rfl rfl rfl rfl hl.1 (Nat.le_of_ble_eq_true rfl) d_E_hasInode_12 ⟨Nat.zero_le _, Nat.zero_le _⟩ (fun H locs hP hD hS => ?_)
  obtain ⟨c_3, hf⟩ := gp_s hf
  cases hf
  exact hret _ _ _ _ c_3 hP hD hS d_E_hasInode_15
set_option maxHeartbeats 4000000 in
set_option maxRecDepth 100000 in
theorem c_E_nameLength {l : Launch} {dC : Nat → ClassId} {dI : Nat → Nat → Nat} {h : Nat → Nat} {cI : ClassId} {cL : ClassId} {NW : Nat} {bk : Int32} {sz : Int32} {wd : Nat → Int64} {mb : Nat → Int32} {gB : Int32} {gI : Int32} {gN : Int32} {iN : Int32} {dr : Int32} {es : Int64} {of : Int64} {od : Int32} {pl : Int64} {hd : Int64} {tk : Nat → Int32} {kn : Nat → Int32} {li : Nat → Int32} {pa : Nat → Int32} {ins : Nat → Int32} {cm : Int32} {fd : Int32} {hr : Int32} {hs : Nat} {r : Int32} (hf : f_E_nameLength NW hd = some (r)) : Met l y_E_nameLength ws_E_nameLength { frames := 0, cells := 0, slots := 0, locals := 0 } (PcU (dC, dI) clAll [(cI, .int), (cL, .long)] (wC h cI cL NW bk sz wd mb gB gI gN iN dr es of od pl hd tk kn li pa ins cm fd hr) hs [.ref (h 5)]) (QUi (dC, dI) clAll [(cI, .int), (cL, .long)] (wC h cI cL NW bk sz wd mb gB gI gN iN dr es of od pl hd tk kn li pa ins cm fd hr) (wC h cI cL NW bk sz wd mb gB gI gN iN dr es of od pl hd tk kn li pa ins cm fd hr) hs r) 0 0 (va_A (wC h cI cL NW bk sz wd mb gB gI gN iN dr es of od pl hd tk kn li pa ins cm fd hr) hs) := by
  refine mUi (cc := b_E_nameLength) (maxL := 1) (by decide) rfl (Nat.le_of_ble_eq_true rfl) ?_
  intro p e s m args below meth c Q hx hb hml hts hown A hA hK hP hD hS hret ls hl
  have htb : ∀ w ∈ TB, w.before args s = true := fun w h => hts w (List.mem_cons_of_mem _ h)
  have hl : lv_has ls 1 [(0, .ref (h 5))] := hl
  unfold f_E_nameLength at hf
  refine lv_aload_n hx hb d_E_nameLength_0 rfl (lv_at hl 0 rfl) ?_
  refine va_get (D := (dC, dI)) (ci := 1) (v := .long hd) (C := R_E) (T := T_E) (N := 8) hx hb htb in_E hown hK hP 5 rfl rfl 7 (by decide) (htb _ tw_152) (fun _ h9 => h9) rfl d_E_nameLength_1 ?_
  refine lv_bipush (v := 48) hx hb d_E_nameLength_4 (by decide) ?_
  refine lv_lushr hx hb d_E_nameLength_6 rfl ?_
  refine lv_l2i hx hb d_E_nameLength_7 rfl ?_
  refine lv_sipush (v := 255) hx hb d_E_nameLength_8 (by decide) ?_
  refine lv_iand hx hb d_E_nameLength_11 ?_
  cases hf
  exact hret _ _ _ _ hP hD hS d_E_nameLength_12
set_option maxHeartbeats 4000000 in
set_option maxRecDepth 100000 in
theorem c_E_hasName {l : Launch} {dC : Nat → ClassId} {dI : Nat → Nat → Nat} {N : Nat} {h : Nat → Nat} {cI : ClassId} {cL : ClassId} {NW : Nat} {bk : Int32} {sz : Int32} {wd : Nat → Int64} {mb : Nat → Int32} {gB : Int32} {gI : Int32} {gN : Int32} {iN : Int32} {dr : Int32} {es : Int64} {of : Int64} {od : Int32} {pl : Int64} {hd : Int64} {tk : Nat → Int32} {kn : Nat → Int32} {li : Nat → Int32} {pa : Nat → Int32} {ins : Nat → Int32} {cm : Int32} {fd : Int32} {hr : Int32} {hs : Nat} {r : Int32} (hf : f_E_hasName N NW sz wd pl hd = some (r)) : Met l y_E_hasName ws_E_hasName { frames := 1, cells := 0, slots := 0, locals := 27 } (PcU (dC, dI) clAll [(cI, .int), (cL, .long)] (wC h cI cL NW bk sz wd mb gB gI gN iN dr es of od pl hd tk kn li pa ins cm fd hr) hs [.ref (h 5)]) (QUi (dC, dI) clAll [(cI, .int), (cL, .long)] (wC h cI cL NW bk sz wd mb gB gI gN iN dr es of od pl hd tk kn li pa ins cm fd hr) (wC h cI cL NW bk sz wd mb gB gI gN iN dr es of od pl hd tk kn li pa ins cm fd hr) hs r) 0 0 (va_A (wC h cI cL NW bk sz wd mb gB gI gN iN dr es of od pl hd tk kn li pa ins cm fd hr) hs) := by
  refine mUz (cc := b_E_hasName) (maxL := 5) (by decide) rfl (Nat.le_of_ble_eq_true rfl) ?_
  intro p e s m args below meth c Q hx hb hml hts hown A hA hK hP hD hS hret ls hl
  have htb : ∀ w ∈ TB, w.before args s = true := fun w h => hts w (List.mem_cons_of_mem _ h)
  have hl : lv_has ls 5 [(0, .ref (h 5))] := hl
  have hj_24 : ∀ (k_24 : Nat) (x1 : Int32) (x2 : Int32) (H : Heap) (locs : List Loc) (ls : Array Slot), f_E_hasName_24 N NW sz wd pl hd k_24 x1 x2 = some (r) → va_P (dC, dI) clAll (wC h cI cL NW bk sz wd mb gB gI gN iN dr es of od pl hd tk kn li pa ins cm fd hr) H → va_D A (wC h cI cL NW bk sz wd mb gB gI gN iN dr es of od pl hd tk kn li pa ins cm fd hr) → va_S A s.heap H locs → lv_has ls 5 [(0, .ref (h 5)), (1, .int x1), (2, .int x2)] → W p l e (headSpec ws_E_hasName { frames := 1, cells := 0, slots := 0, locals := 27 }).room s m args below meth c H locs 0 0 Q (F0 m 24 ls []) := by
    intro k_24
    induction k_24 with
    | zero => intro _ _ _ _ _ hf; exact absurd hf (by simp [f_E_hasName_24])
    | succ k_24 ih_24 =>
      intro x1 x2 H locs ls hf hP hD hS hl
      rw [f_E_hasName_24] at hf
      refine lv_iload_n hx hb d_E_hasName_24 rfl (lv_at hl 2 rfl) ?_
      refine lv_iload_n hx hb d_E_hasName_25 rfl (lv_at hl 1 rfl) ?_
      refine lv_icmp_ge (tgt := 71) hx hb d_E_hasName_26 (by decide) (fun c_1 => ?_) (fun c_1 => ?_)
      · have hf := ite_t c_1 hf
        refine lv_iconst (v := 1) hx hb d_E_hasName_71 (by decide) ?_
        cases hf
        exact hret _ _ _ _ (Or.inr rfl) hP hD hS d_E_hasName_72
      · have hf := ite_f c_1 hf
        refine lv_aload_n hx hb d_E_hasName_29 rfl (lv_at hl 0 rfl) ?_
        refine va_get (D := (dC, dI)) (ci := 1) (v := .ref (h 1)) (C := R_E) (T := T_E) (N := 8) hx hb htb in_E hown hK hP 5 rfl rfl 0 (by decide) (htb _ tw_145) (fun _ h9 => h9) rfl d_E_hasName_30 ?_
        refine lv_aload_n hx hb d_E_hasName_33 rfl (lv_at hl 0 rfl) ?_
        refine va_get (D := (dC, dI)) (ci := 1) (v := .long pl) (C := R_E) (T := T_E) (N := 8) hx hb htb in_E hown hK hP 5 rfl rfl 6 (by decide) (htb _ tw_151) (fun _ h9 => h9) rfl d_E_hasName_34 ?_
        refine lv_ldc2 (v := 8) hx hb hown (htb _ tw_480) d_E_hasName_37 ?_
        refine lv_ladd hx hb d_E_hasName_40 ?_
        refine lv_iload_n hx hb d_E_hasName_41 rfl (lv_at hl 2 rfl) ?_
        refine lv_i2l hx hb d_E_hasName_42 rfl ?_
        refine lv_ladd hx hb d_E_hasName_43 ?_
        refine lv_iconst (v := 1) hx hb d_E_hasName_44 (by decide) ?_
        obtain ⟨r_2, hc_3, hf⟩ := bd1_s hf
        refine ucVl (As := [.long ((pl + ((8 : Int64))) + (Int32.toInt64 x2)), .int ((1 : Int32))]) (rest := []) ⟨hx, hb, hml, hown, htb⟩ hK hP hD hS hA (fun hs => c_D_number hc_3) (cwV 2 htb (gV tw_440 tw_264 tw_265 tw_69 tw_266) rfl rfl rfl (by decide +kernel) ⟨Nat.le_of_ble_eq_true rfl, Nat.le_of_ble_eq_true rfl⟩) 1 0 rfl rfl rfl rfl rfl hl.1 (Nat.le_of_ble_eq_true rfl) d_E_hasName_45 ⟨Nat.zero_le _, Nat.zero_le _⟩ (fun H locs hP hD hS => ?_)
        refine lv_lstore_n (lv' := [(3, .long r_2), (0, .ref (h 5)), (1, .int x1), (2, .int x2)]) hx hb d_E_hasName_48 rfl hl (by decide) rfl (fun ls hl => ?_)
        refine lv_lload_n hx hb d_E_hasName_49 rfl (lv_at hl 0 rfl) ?_
        refine lv_lconst (v := 0) hx hb d_E_hasName_50 (by decide) ?_
        refine lc_eq (tgt := 63) hx hb d_E_hasName_51 d_E_hasName_52 (by decide) (fun c_4 => ?_) (fun c_4 => ?_)
        · have hf := ite_t c_4 hf
          refine lv_iconst (v := 0) hx hb d_E_hasName_63 (by decide) ?_
          cases hf
          exact hret _ _ _ _ (Or.inl rfl) hP hD hS d_E_hasName_64
        · have hf := ite_f c_4 hf
          refine lv_lload_n hx hb d_E_hasName_55 rfl (lv_at hl 0 rfl) ?_
          refine lv_ldc2 (v := 47) hx hb hown (htb _ tw_481) d_E_hasName_56 ?_
          refine lc_ne (tgt := 65) hx hb d_E_hasName_59 d_E_hasName_60 (by decide) (fun c_5 => ?_) (fun c_5 => ?_)
          · have hf := ite_f c_5 hf
            obtain ⟨v2_6, ev2_6, hf⟩ := lt1_s hf
            refine lv_iinc (v := v2_6) (lv' := [(2, .int v2_6), (3, .long r_2), (0, .ref (h 5)), (1, .int x1)]) hx hb d_E_hasName_65 hl (k := 3) rfl (by rw [← ev2_6]; rfl) (by decide) rfl (fun ls hl => ?_)
            refine lv_goto (tgt := 24) hx hb d_E_hasName_68 (by decide) ?_
            exact ih_24 x1 v2_6 _ _ _ hf hP hD hS (lv_sub hl [2, 3, 0] rfl)
          · have hf := ite_t c_5 hf
            refine lv_iconst (v := 0) hx hb d_E_hasName_63 (by decide) ?_
            cases hf
            exact hret _ _ _ _ (Or.inl rfl) hP hD hS d_E_hasName_64
  unfold f_E_hasName at hf
  refine lv_aload_n hx hb d_E_hasName_0 rfl (lv_at hl 0 rfl) ?_
  obtain ⟨r_1, hc_2, hf⟩ := bd1_s hf
  refine ucVi (As := []) (rest := []) ⟨hx, hb, hml, hown, htb⟩ hK hP hD hS hA (fun hs => c_E_nameLength hc_2) (cwV 0 htb (gV tw_476 tw_477 tw_478 tw_72 tw_479) rfl rfl rfl (by decide +kernel) ⟨Nat.le_of_ble_eq_true rfl, Nat.le_of_ble_eq_true rfl⟩) 5 1 rfl rfl rfl rfl rfl hl.1 (Nat.le_of_ble_eq_true rfl) d_E_hasName_1 ⟨Nat.zero_le _, Nat.zero_le _⟩ (fun H locs hP hD hS => ?_)
  refine lv_istore_n (lv' := [(1, .int r_1), (0, .ref (h 5))]) hx hb d_E_hasName_4 rfl hl (by decide) rfl (fun ls hl => ?_)
  refine lv_iload_n hx hb d_E_hasName_5 rfl (lv_at hl 0 rfl) ?_
  refine lv_if_eq (tgt := 20) hx hb d_E_hasName_6 (by decide) (fun c_3 => ?_) (fun c_3 => ?_)
  · have hf := ite_t c_3 hf
    refine lv_iconst (v := 0) hx hb d_E_hasName_20 (by decide) ?_
    cases hf
    exact hret _ _ _ _ (Or.inl rfl) hP hD hS d_E_hasName_21
  · have hf := ite_f c_3 hf
    refine lv_bipush (v := 8) hx hb d_E_hasName_9 (by decide) ?_
    refine lv_iload_n hx hb d_E_hasName_11 rfl (lv_at hl 0 rfl) ?_
    refine lv_iadd hx hb d_E_hasName_12 ?_
    refine lv_aload_n hx hb d_E_hasName_13 rfl (lv_at hl 1 rfl) ?_
    obtain ⟨r_4, hc_5, hf⟩ := bd1_s hf
    refine ucVi (As := []) (rest := [.int (((8 : Int32)) + r_1)]) ⟨hx, hb, hml, hown, htb⟩ hK hP hD hS hA (fun hs => c_E_length hc_5) (cwV 0 htb (gV tw_450 tw_451 tw_452 tw_72 tw_453) rfl rfl rfl (by decide +kernel) ⟨Nat.le_of_ble_eq_true rfl, Nat.le_of_ble_eq_true rfl⟩) 5 1 rfl rfl rfl rfl rfl hl.1 (Nat.le_of_ble_eq_true rfl) d_E_hasName_14 ⟨Nat.zero_le _, Nat.zero_le _⟩ (fun H locs hP hD hS => ?_)
    refine lv_icmp_le (tgt := 22) hx hb d_E_hasName_17 (by decide) (fun c_6 => ?_) (fun c_6 => ?_)
    · have hf := ite_t c_6 hf
      refine lv_iconst (v := 0) hx hb d_E_hasName_22 (by decide) ?_
      refine lv_istore_n (lv' := [(2, .int ((0 : Int32))), (1, .int r_1), (0, .ref (h 5))]) hx hb d_E_hasName_23 rfl hl (by decide) rfl (fun ls hl => ?_)
      exact hj_24 N r_1 ((0 : Int32)) _ _ _ hf hP hD hS (lv_sub hl [2, 1, 0] rfl)
    · have hf := ite_f c_6 hf
      refine lv_iconst (v := 0) hx hb d_E_hasName_20 (by decide) ?_
      cases hf
      exact hret _ _ _ _ (Or.inl rfl) hP hD hS d_E_hasName_21
set_option maxHeartbeats 4000000 in
set_option maxRecDepth 100000 in
theorem c_E_inode {l : Launch} {dC : Nat → ClassId} {dI : Nat → Nat → Nat} {h : Nat → Nat} {cI : ClassId} {cL : ClassId} {NW : Nat} {bk : Int32} {sz : Int32} {wd : Nat → Int64} {mb : Nat → Int32} {gB : Int32} {gI : Int32} {gN : Int32} {iN : Int32} {dr : Int32} {es : Int64} {of : Int64} {od : Int32} {pl : Int64} {hd : Int64} {tk : Nat → Int32} {kn : Nat → Int32} {li : Nat → Int32} {pa : Nat → Int32} {ins : Nat → Int32} {cm : Int32} {fd : Int32} {hr : Int32} {hs : Nat} {r : Int32} (hf : f_E_inode NW hd = some (r)) : Met l y_E_inode ws_E_inode { frames := 0, cells := 0, slots := 0, locals := 0 } (PcU (dC, dI) clAll [(cI, .int), (cL, .long)] (wC h cI cL NW bk sz wd mb gB gI gN iN dr es of od pl hd tk kn li pa ins cm fd hr) hs [.ref (h 5)]) (QUi (dC, dI) clAll [(cI, .int), (cL, .long)] (wC h cI cL NW bk sz wd mb gB gI gN iN dr es of od pl hd tk kn li pa ins cm fd hr) (wC h cI cL NW bk sz wd mb gB gI gN iN dr es of od pl hd tk kn li pa ins cm fd hr) hs r) 0 0 (va_A (wC h cI cL NW bk sz wd mb gB gI gN iN dr es of od pl hd tk kn li pa ins cm fd hr) hs) := by
  refine mUi (cc := b_E_inode) (maxL := 1) (by decide) rfl (Nat.le_of_ble_eq_true rfl) ?_
  intro p e s m args below meth c Q hx hb hml hts hown A hA hK hP hD hS hret ls hl
  have htb : ∀ w ∈ TB, w.before args s = true := fun w h => hts w (List.mem_cons_of_mem _ h)
  have hl : lv_has ls 1 [(0, .ref (h 5))] := hl
  unfold f_E_inode at hf
  refine lv_aload_n hx hb d_E_inode_0 rfl (lv_at hl 0 rfl) ?_
  refine va_get (D := (dC, dI)) (ci := 1) (v := .long hd) (C := R_E) (T := T_E) (N := 8) hx hb htb in_E hown hK hP 5 rfl rfl 7 (by decide) (htb _ tw_152) (fun _ h9 => h9) rfl d_E_inode_1 ?_
  refine lv_l2i hx hb d_E_inode_4 rfl ?_
  cases hf
  exact hret _ _ _ _ hP hD hS d_E_inode_5
set_option maxHeartbeats 4000000 in
set_option maxRecDepth 100000 in
theorem c_E_order {l : Launch} {dC : Nat → ClassId} {dI : Nat → Nat → Nat} {h : Nat → Nat} {cI : ClassId} {cL : ClassId} {NW : Nat} {bk : Int32} {sz : Int32} {wd : Nat → Int64} {mb : Nat → Int32} {gB : Int32} {gI : Int32} {gN : Int32} {iN : Int32} {dr : Int32} {es : Int64} {of : Int64} {od : Int32} {pl : Int64} {hd : Int64} {tk : Nat → Int32} {kn : Nat → Int32} {li : Nat → Int32} {pa : Nat → Int32} {ins : Nat → Int32} {cm : Int32} {fd : Int32} {hr : Int32} {hs : Nat} {r : Int32} (hf : f_E_order NW od = some (r)) : Met l y_E_order ws_E_order { frames := 0, cells := 0, slots := 0, locals := 0 } (PcU (dC, dI) clAll [(cI, .int), (cL, .long)] (wC h cI cL NW bk sz wd mb gB gI gN iN dr es of od pl hd tk kn li pa ins cm fd hr) hs [.ref (h 5)]) (QUi (dC, dI) clAll [(cI, .int), (cL, .long)] (wC h cI cL NW bk sz wd mb gB gI gN iN dr es of od pl hd tk kn li pa ins cm fd hr) (wC h cI cL NW bk sz wd mb gB gI gN iN dr es of od pl hd tk kn li pa ins cm fd hr) hs r) 0 0 (va_A (wC h cI cL NW bk sz wd mb gB gI gN iN dr es of od pl hd tk kn li pa ins cm fd hr) hs) := by
  refine mUi (cc := b_E_order) (maxL := 1) (by decide) rfl (Nat.le_of_ble_eq_true rfl) ?_
  intro p e s m args below meth c Q hx hb hml hts hown A hA hK hP hD hS hret ls hl
  have htb : ∀ w ∈ TB, w.before args s = true := fun w h => hts w (List.mem_cons_of_mem _ h)
  have hl : lv_has ls 1 [(0, .ref (h 5))] := hl
  unfold f_E_order at hf
  refine lv_aload_n hx hb d_E_order_0 rfl (lv_at hl 0 rfl) ?_
  refine va_get (D := (dC, dI)) (ci := 1) (v := .int od) (C := R_E) (T := T_E) (N := 8) hx hb htb in_E hown hK hP 5 rfl rfl 5 (by decide) (htb _ tw_150) (fun _ h9 => h9) rfl d_E_order_1 ?_
  cases hf
  exact hret _ _ _ _ hP hD hS d_E_order_4
set_option maxHeartbeats 4000000 in
set_option maxRecDepth 100000 in
theorem c_E_isOneDot {l : Launch} {dC : Nat → ClassId} {dI : Nat → Nat → Nat} {h : Nat → Nat} {cI : ClassId} {cL : ClassId} {NW : Nat} {bk : Int32} {sz : Int32} {wd : Nat → Int64} {mb : Nat → Int32} {gB : Int32} {gI : Int32} {gN : Int32} {iN : Int32} {dr : Int32} {es : Int64} {of : Int64} {od : Int32} {pl : Int64} {hd : Int64} {tk : Nat → Int32} {kn : Nat → Int32} {li : Nat → Int32} {pa : Nat → Int32} {ins : Nat → Int32} {cm : Int32} {fd : Int32} {hr : Int32} {hs : Nat} {r : Int32} (hf : f_E_isOneDot NW sz wd pl hd = some (r)) : Met l y_E_isOneDot ws_E_isOneDot { frames := 1, cells := 0, slots := 0, locals := 27 } (PcU (dC, dI) clAll [(cI, .int), (cL, .long)] (wC h cI cL NW bk sz wd mb gB gI gN iN dr es of od pl hd tk kn li pa ins cm fd hr) hs [.ref (h 5)]) (QUi (dC, dI) clAll [(cI, .int), (cL, .long)] (wC h cI cL NW bk sz wd mb gB gI gN iN dr es of od pl hd tk kn li pa ins cm fd hr) (wC h cI cL NW bk sz wd mb gB gI gN iN dr es of od pl hd tk kn li pa ins cm fd hr) hs r) 0 0 (va_A (wC h cI cL NW bk sz wd mb gB gI gN iN dr es of od pl hd tk kn li pa ins cm fd hr) hs) := by
  refine mUz (cc := b_E_isOneDot) (maxL := 1) (by decide) rfl (Nat.le_of_ble_eq_true rfl) ?_
  intro p e s m args below meth c Q hx hb hml hts hown A hA hK hP hD hS hret ls hl
  have htb : ∀ w ∈ TB, w.before args s = true := fun w h => hts w (List.mem_cons_of_mem _ h)
  have hl : lv_has ls 1 [(0, .ref (h 5))] := hl
  unfold f_E_isOneDot at hf
  refine lv_aload_n hx hb d_E_isOneDot_0 rfl (lv_at hl 0 rfl) ?_
  obtain ⟨r_1, hc_2, hf⟩ := bd1_s hf
  refine ucVi (As := []) (rest := []) ⟨hx, hb, hml, hown, htb⟩ hK hP hD hS hA (fun hs => c_E_nameLength hc_2) (cwV 0 htb (gV tw_476 tw_477 tw_478 tw_72 tw_479) rfl rfl rfl (by decide +kernel) ⟨Nat.le_of_ble_eq_true rfl, Nat.le_of_ble_eq_true rfl⟩) 5 1 rfl rfl rfl rfl rfl hl.1 (Nat.le_of_ble_eq_true rfl) d_E_isOneDot_1 ⟨Nat.zero_le _, Nat.zero_le _⟩ (fun H locs hP hD hS => ?_)
  refine lv_iconst (v := 1) hx hb d_E_isOneDot_4 (by decide) ?_
  refine lv_icmp_ne (tgt := 35) hx hb d_E_isOneDot_5 (by decide) (fun c_3 => ?_) (fun c_3 => ?_)
  · have hf := ite_f c_3 hf
    refine lv_iconst (v := 0) hx hb d_E_isOneDot_35 (by decide) ?_
    cases hf
    exact hret _ _ _ _ (Or.inl rfl) hP hD hS d_E_isOneDot_36
  · have hf := ite_t c_3 hf
    refine lv_aload_n hx hb d_E_isOneDot_8 rfl (lv_at hl 0 rfl) ?_
    refine va_get (D := (dC, dI)) (ci := 1) (v := .ref (h 1)) (C := R_E) (T := T_E) (N := 8) hx hb htb in_E hown hK hP 5 rfl rfl 0 (by decide) (htb _ tw_145) (fun _ h9 => h9) rfl d_E_isOneDot_9 ?_
    refine lv_aload_n hx hb d_E_isOneDot_12 rfl (lv_at hl 0 rfl) ?_
    refine va_get (D := (dC, dI)) (ci := 1) (v := .long pl) (C := R_E) (T := T_E) (N := 8) hx hb htb in_E hown hK hP 5 rfl rfl 6 (by decide) (htb _ tw_151) (fun _ h9 => h9) rfl d_E_isOneDot_13 ?_
    refine lv_ldc2 (v := 8) hx hb hown (htb _ tw_480) d_E_isOneDot_16 ?_
    refine lv_ladd hx hb d_E_isOneDot_19 ?_
    refine lv_iconst (v := 1) hx hb d_E_isOneDot_20 (by decide) ?_
    obtain ⟨r_4, hc_5, hf⟩ := bd1_s hf
    refine ucVl (As := [.long (pl + ((8 : Int64))), .int ((1 : Int32))]) (rest := []) ⟨hx, hb, hml, hown, htb⟩ hK hP hD hS hA (fun hs => c_D_number hc_5) (cwV 2 htb (gV tw_440 tw_264 tw_265 tw_69 tw_266) rfl rfl rfl (by decide +kernel) ⟨Nat.le_of_ble_eq_true rfl, Nat.le_of_ble_eq_true rfl⟩) 1 0 rfl rfl rfl rfl rfl hl.1 (Nat.le_of_ble_eq_true rfl) d_E_isOneDot_21 ⟨Nat.zero_le _, Nat.zero_le _⟩ (fun H locs hP hD hS => ?_)
    refine lv_ldc2 (v := 46) hx hb hown (htb _ tw_494) d_E_isOneDot_24 ?_
    refine lc_ne (tgt := 35) hx hb d_E_isOneDot_27 d_E_isOneDot_28 (by decide) (fun c_6 => ?_) (fun c_6 => ?_)
    · have hf := ite_f c_6 hf
      refine lv_iconst (v := 0) hx hb d_E_isOneDot_35 (by decide) ?_
      cases hf
      exact hret _ _ _ _ (Or.inl rfl) hP hD hS d_E_isOneDot_36
    · have hf := ite_t c_6 hf
      refine lv_iconst (v := 1) hx hb d_E_isOneDot_31 (by decide) ?_
      refine lv_goto (tgt := 36) hx hb d_E_isOneDot_32 (by decide) ?_
      cases hf
      exact hret _ _ _ _ (Or.inr rfl) hP hD hS d_E_isOneDot_36
set_option maxHeartbeats 4000000 in
set_option maxRecDepth 100000 in
theorem c_E_mark {l : Launch} {dC : Nat → ClassId} {dI : Nat → Nat → Nat} {h : Nat → Nat} {cI : ClassId} {cL : ClassId} {NW : Nat} {bk : Int32} {sz : Int32} {wd : Nat → Int64} {mb : Nat → Int32} {gB : Int32} {gI : Int32} {gN : Int32} {iN : Int32} {dr : Int32} {es : Int64} {of : Int64} {od : Int32} {pl : Int64} {hd : Int64} {tk : Nat → Int32} {kn : Nat → Int32} {li : Nat → Int32} {pa : Nat → Int32} {ins : Nat → Int32} {cm : Int32} {fd : Int32} {hr : Int32} {hs : Nat} {r : Int32} (hf : f_E_mark NW hd = some (r)) : Met l y_E_mark ws_E_mark { frames := 0, cells := 0, slots := 0, locals := 0 } (PcU (dC, dI) clAll [(cI, .int), (cL, .long)] (wC h cI cL NW bk sz wd mb gB gI gN iN dr es of od pl hd tk kn li pa ins cm fd hr) hs [.ref (h 5)]) (QUi (dC, dI) clAll [(cI, .int), (cL, .long)] (wC h cI cL NW bk sz wd mb gB gI gN iN dr es of od pl hd tk kn li pa ins cm fd hr) (wC h cI cL NW bk sz wd mb gB gI gN iN dr es of od pl hd tk kn li pa ins cm fd hr) hs r) 0 0 (va_A (wC h cI cL NW bk sz wd mb gB gI gN iN dr es of od pl hd tk kn li pa ins cm fd hr) hs) := by
  refine mUi (cc := b_E_mark) (maxL := 1) (by decide) rfl (Nat.le_of_ble_eq_true rfl) ?_
  intro p e s m args below meth c Q hx hb hml hts hown A hA hK hP hD hS hret ls hl
  have htb : ∀ w ∈ TB, w.before args s = true := fun w h => hts w (List.mem_cons_of_mem _ h)
  have hl : lv_has ls 1 [(0, .ref (h 5))] := hl
  unfold f_E_mark at hf
  refine lv_aload_n hx hb d_E_mark_0 rfl (lv_at hl 0 rfl) ?_
  refine va_get (D := (dC, dI)) (ci := 1) (v := .long hd) (C := R_E) (T := T_E) (N := 8) hx hb htb in_E hown hK hP 5 rfl rfl 7 (by decide) (htb _ tw_152) (fun _ h9 => h9) rfl d_E_mark_1 ?_
  refine lv_bipush (v := 56) hx hb d_E_mark_4 (by decide) ?_
  refine lv_lushr hx hb d_E_mark_6 rfl ?_
  refine lv_l2i hx hb d_E_mark_7 rfl ?_
  cases hf
  exact hret _ _ _ _ hP hD hS d_E_mark_8
set_option maxHeartbeats 4000000 in
set_option maxRecDepth 100000 in
theorem c_E_isTwoDots {l : Launch} {dC : Nat → ClassId} {dI : Nat → Nat → Nat} {h : Nat → Nat} {cI : ClassId} {cL : ClassId} {NW : Nat} {bk : Int32} {sz : Int32} {wd : Nat → Int64} {mb : Nat → Int32} {gB : Int32} {gI : Int32} {gN : Int32} {iN : Int32} {dr : Int32} {es : Int64} {of : Int64} {od : Int32} {pl : Int64} {hd : Int64} {tk : Nat → Int32} {kn : Nat → Int32} {li : Nat → Int32} {pa : Nat → Int32} {ins : Nat → Int32} {cm : Int32} {fd : Int32} {hr : Int32} {hs : Nat} {r : Int32} (hf : f_E_isTwoDots NW sz wd pl hd = some (r)) : Met l y_E_isTwoDots ws_E_isTwoDots { frames := 1, cells := 0, slots := 0, locals := 27 } (PcU (dC, dI) clAll [(cI, .int), (cL, .long)] (wC h cI cL NW bk sz wd mb gB gI gN iN dr es of od pl hd tk kn li pa ins cm fd hr) hs [.ref (h 5)]) (QUi (dC, dI) clAll [(cI, .int), (cL, .long)] (wC h cI cL NW bk sz wd mb gB gI gN iN dr es of od pl hd tk kn li pa ins cm fd hr) (wC h cI cL NW bk sz wd mb gB gI gN iN dr es of od pl hd tk kn li pa ins cm fd hr) hs r) 0 0 (va_A (wC h cI cL NW bk sz wd mb gB gI gN iN dr es of od pl hd tk kn li pa ins cm fd hr) hs) := by
  refine mUz (cc := b_E_isTwoDots) (maxL := 1) (by decide) rfl (Nat.le_of_ble_eq_true rfl) ?_
  intro p e s m args below meth c Q hx hb hml hts hown A hA hK hP hD hS hret ls hl
  have htb : ∀ w ∈ TB, w.before args s = true := fun w h => hts w (List.mem_cons_of_mem _ h)
  have hl : lv_has ls 1 [(0, .ref (h 5))] := hl
  unfold f_E_isTwoDots at hf
  refine lv_aload_n hx hb d_E_isTwoDots_0 rfl (lv_at hl 0 rfl) ?_
  obtain ⟨r_1, hc_2, hf⟩ := bd1_s hf
  refine ucVi (As := []) (rest := []) ⟨hx, hb, hml, hown, htb⟩ hK hP hD hS hA (fun hs => c_E_nameLength hc_2) (cwV 0 htb (gV tw_476 tw_477 tw_478 tw_72 tw_479) rfl rfl rfl (by decide +kernel) ⟨Nat.le_of_ble_eq_true rfl, Nat.le_of_ble_eq_true rfl⟩) 5 1 rfl rfl rfl rfl rfl hl.1 (Nat.le_of_ble_eq_true rfl) d_E_isTwoDots_1 ⟨Nat.zero_le _, Nat.zero_le _⟩ (fun H locs hP hD hS => ?_)
  refine lv_iconst (v := 2) hx hb d_E_isTwoDots_4 (by decide) ?_
  refine lv_icmp_ne (tgt := 35) hx hb d_E_isTwoDots_5 (by decide) (fun c_3 => ?_) (fun c_3 => ?_)
  · have hf := ite_f c_3 hf
    refine lv_iconst (v := 0) hx hb d_E_isTwoDots_35 (by decide) ?_
    cases hf
    exact hret _ _ _ _ (Or.inl rfl) hP hD hS d_E_isTwoDots_36
  · have hf := ite_t c_3 hf
    refine lv_aload_n hx hb d_E_isTwoDots_8 rfl (lv_at hl 0 rfl) ?_
    refine va_get (D := (dC, dI)) (ci := 1) (v := .ref (h 1)) (C := R_E) (T := T_E) (N := 8) hx hb htb in_E hown hK hP 5 rfl rfl 0 (by decide) (htb _ tw_145) (fun _ h9 => h9) rfl d_E_isTwoDots_9 ?_
    refine lv_aload_n hx hb d_E_isTwoDots_12 rfl (lv_at hl 0 rfl) ?_
    refine va_get (D := (dC, dI)) (ci := 1) (v := .long pl) (C := R_E) (T := T_E) (N := 8) hx hb htb in_E hown hK hP 5 rfl rfl 6 (by decide) (htb _ tw_151) (fun _ h9 => h9) rfl d_E_isTwoDots_13 ?_
    refine lv_ldc2 (v := 8) hx hb hown (htb _ tw_480) d_E_isTwoDots_16 ?_
    refine lv_ladd hx hb d_E_isTwoDots_19 ?_
    refine lv_iconst (v := 2) hx hb d_E_isTwoDots_20 (by decide) ?_
    obtain ⟨r_4, hc_5, hf⟩ := bd1_s hf
    refine ucVl (As := [.long (pl + ((8 : Int64))), .int ((2 : Int32))]) (rest := []) ⟨hx, hb, hml, hown, htb⟩ hK hP hD hS hA (fun hs => c_D_number hc_5) (cwV 2 htb (gV tw_440 tw_264 tw_265 tw_69 tw_266) rfl rfl rfl (by decide +kernel) ⟨Nat.le_of_ble_eq_true rfl, Nat.le_of_ble_eq_true rfl⟩) 1 0 rfl rfl rfl rfl rfl hl.1 (Nat.le_of_ble_eq_true rfl) d_E_isTwoDots_21 ⟨Nat.zero_le _, Nat.zero_le _⟩ (fun H locs hP hD hS => ?_)
    refine lv_ldc2 (v := 11822) hx hb hown (htb _ tw_503) d_E_isTwoDots_24 ?_
    refine lc_ne (tgt := 35) hx hb d_E_isTwoDots_27 d_E_isTwoDots_28 (by decide) (fun c_6 => ?_) (fun c_6 => ?_)
    · have hf := ite_f c_6 hf
      refine lv_iconst (v := 0) hx hb d_E_isTwoDots_35 (by decide) ?_
      cases hf
      exact hret _ _ _ _ (Or.inl rfl) hP hD hS d_E_isTwoDots_36
    · have hf := ite_t c_6 hf
      refine lv_iconst (v := 1) hx hb d_E_isTwoDots_31 (by decide) ?_
      refine lv_goto (tgt := 36) hx hb d_E_isTwoDots_32 (by decide) ?_
      cases hf
      exact hret _ _ _ _ (Or.inr rfl) hP hD hS d_E_isTwoDots_36
set_option maxHeartbeats 4000000 in
set_option maxRecDepth 100000 in
theorem c_E_advance {l : Launch} {dC : Nat → ClassId} {dI : Nat → Nat → Nat} {h : Nat → Nat} {cI : ClassId} {cL : ClassId} {NW : Nat} {bk : Int32} {sz : Int32} {wd : Nat → Int64} {mb : Nat → Int32} {gB : Int32} {gI : Int32} {gN : Int32} {iN : Int32} {dr : Int32} {es : Int64} {of : Int64} {od : Int32} {pl : Int64} {hd : Int64} {tk : Nat → Int32} {kn : Nat → Int32} {li : Nat → Int32} {pa : Nat → Int32} {ins : Nat → Int32} {cm : Int32} {fd : Int32} {hr : Int32} {hs : Nat} {of' : Int64} {od' : Int32} {pl' : Int64} {hd' : Int64} (hf : f_E_advance NW sz wd mb gI dr of od pl hd = some (of', od', pl', hd')) : Met l y_E_advance ws_E_advance { frames := 2, cells := 0, slots := 0, locals := 56 } (PcU (dC, dI) clAll [(cI, .int), (cL, .long)] (wC h cI cL NW bk sz wd mb gB gI gN iN dr es of od pl hd tk kn li pa ins cm fd hr) hs [.ref (h 5)]) (QUv (dC, dI) clAll [(cI, .int), (cL, .long)] (wC h cI cL NW bk sz wd mb gB gI gN iN dr es of od pl hd tk kn li pa ins cm fd hr) (wC h cI cL NW bk sz wd mb gB gI gN iN dr es of' od' pl' hd' tk kn li pa ins cm fd hr) hs) 0 0 (va_A (wC h cI cL NW bk sz wd mb gB gI gN iN dr es of od pl hd tk kn li pa ins cm fd hr) hs) := by
  refine mUv (cc := b_E_advance) (maxL := 1) (by decide) rfl (Nat.le_of_ble_eq_true rfl) ?_
  intro p e s m args below meth c Q hx hb hml hts hown A hA hK hP hD hS hret ls hl
  have htb : ∀ w ∈ TB, w.before args s = true := fun w h => hts w (List.mem_cons_of_mem _ h)
  have hl : lv_has ls 1 [(0, .ref (h 5))] := hl
  unfold f_E_advance at hf
  refine lv_aload_n hx hb d_E_advance_0 rfl (lv_at hl 0 rfl) ?_
  refine lv_dup hx hb d_E_advance_1 rfl ?_
  refine va_get (D := (dC, dI)) (ci := 1) (v := .long of) (C := R_E) (T := T_E) (N := 8) hx hb htb in_E hown hK hP 5 rfl rfl 4 (by decide) (htb _ tw_149) (fun _ h9 => h9) rfl d_E_advance_2 ?_
  refine lv_bipush (v := 12) hx hb d_E_advance_5 (by decide) ?_
  refine lv_aload_n hx hb d_E_advance_7 rfl (lv_at hl 0 rfl) ?_
  obtain ⟨r_1, hc_2, hf⟩ := bd1_s hf
  refine ucVi (As := []) (rest := [.int ((12 : Int32)), .long of, .ref (h 5)]) ⟨hx, hb, hml, hown, htb⟩ hK hP hD hS hA (fun hs => c_E_length hc_2) (cwV 0 htb (gV tw_450 tw_451 tw_452 tw_72 tw_453) rfl rfl rfl (by decide +kernel) ⟨Nat.le_of_ble_eq_true rfl, Nat.le_of_ble_eq_true rfl⟩) 5 1 rfl rfl rfl rfl rfl hl.1 (Nat.le_of_ble_eq_true rfl) d_E_advance_8 ⟨Nat.zero_le _, Nat.zero_le _⟩ (fun H locs hP hD hS => ?_)
  refine va_mmax hx hb (hml.trans hl.1.symm) hown (htb _ tw_509) (htb _ tw_100) (htb _ tw_70) (htb _ tw_101) (Nat.le_of_ble_eq_true rfl) (Nat.le_of_ble_eq_true rfl) (Nat.zero_le _) (Nat.zero_le _) d_E_advance_11 ?_
  refine lv_i2l hx hb d_E_advance_14 rfl ?_
  refine lv_ladd hx hb d_E_advance_15 ?_
  refine va_put (D := (dC, dI)) (ci := 1) (v := .long (of + (Int32.toInt64 (if ((12 : Int32)) < r_1 then r_1 else ((12 : Int32)))))) (ty := .long) (C := R_E) (T := T_E) (N := 8) hx hb htb in_E ty_E tyok_E nm_E hown hK hP hD hS 5 rfl rfl 4 (by decide) (htb _ tw_149) (fun _ h9 => h9) rfl (by decide +kernel) rfl rfl (Nat.le_of_ble_eq_true rfl) d_E_advance_16 (fun H locs hP hD hS => ?_)
  have hP : va_P (dC, dI) clAll (wC h cI cL NW bk sz wd mb gB gI gN iN dr es (of + (Int32.toInt64 (if ((12 : Int32)) < r_1 then r_1 else ((12 : Int32))))) od pl hd tk kn li pa ins cm fd hr) H := hP
  have hD : va_D A (wC h cI cL NW bk sz wd mb gB gI gN iN dr es (of + (Int32.toInt64 (if ((12 : Int32)) < r_1 then r_1 else ((12 : Int32))))) od pl hd tk kn li pa ins cm fd hr) := hD
  refine lv_aload_n hx hb d_E_advance_19 rfl (lv_at hl 0 rfl) ?_
  refine lv_dup hx hb d_E_advance_20 rfl ?_
  refine va_get (D := (dC, dI)) (ci := 1) (v := .int od) (C := R_E) (T := T_E) (N := 8) hx hb htb in_E hown hK hP 5 rfl rfl 5 (by decide) (htb _ tw_150) (fun _ h9 => h9) rfl d_E_advance_21 ?_
  refine lv_iconst (v := 1) hx hb d_E_advance_24 (by decide) ?_
  refine lv_iadd hx hb d_E_advance_25 ?_
  refine va_put (D := (dC, dI)) (ci := 1) (v := .int (od + ((1 : Int32)))) (ty := .int) (C := R_E) (T := T_E) (N := 8) hx hb htb in_E ty_E tyok_E nm_E hown hK hP hD hS 5 rfl rfl 5 (by decide) (htb _ tw_150) (fun _ h9 => h9) rfl (by decide +kernel) rfl rfl (Nat.le_of_ble_eq_true rfl) d_E_advance_26 (fun H locs hP hD hS => ?_)
  have hP : va_P (dC, dI) clAll (wC h cI cL NW bk sz wd mb gB gI gN iN dr es (of + (Int32.toInt64 (if ((12 : Int32)) < r_1 then r_1 else ((12 : Int32))))) (od + ((1 : Int32))) pl hd tk kn li pa ins cm fd hr) H := hP
  have hD : va_D A (wC h cI cL NW bk sz wd mb gB gI gN iN dr es (of + (Int32.toInt64 (if ((12 : Int32)) < r_1 then r_1 else ((12 : Int32))))) (od + ((1 : Int32))) pl hd tk kn li pa ins cm fd hr) := hD
  refine lv_aload_n hx hb d_E_advance_29 rfl (lv_at hl 0 rfl) ?_
  refine lv_ldc2 (v := 1024) hx hb hown (htb _ tw_438) d_E_advance_30 ?_
  refine lv_aload_n hx hb d_E_advance_33 rfl (lv_at hl 0 rfl) ?_
  refine va_get (D := (dC, dI)) (ci := 1) (v := .ref (h 3)) (C := R_E) (T := T_E) (N := 8) hx hb htb in_E hown hK hP 5 rfl rfl 1 (by decide) (htb _ tw_146) (fun _ h9 => h9) rfl d_E_advance_34 ?_
  refine lv_aload_n hx hb d_E_advance_37 rfl (lv_at hl 0 rfl) ?_
  refine va_get (D := (dC, dI)) (ci := 1) (v := .int dr) (C := R_E) (T := T_E) (N := 8) hx hb htb in_E hown hK hP 5 rfl rfl 2 (by decide) (htb _ tw_147) (fun _ h9 => h9) rfl d_E_advance_38 ?_
  refine lv_aload_n hx hb d_E_advance_41 rfl (lv_at hl 0 rfl) ?_
  refine va_get (D := (dC, dI)) (ci := 1) (v := .long (of + (Int32.toInt64 (if ((12 : Int32)) < r_1 then r_1 else ((12 : Int32)))))) (C := R_E) (T := T_E) (N := 8) hx hb htb in_E hown hK hP 5 rfl rfl 4 (by decide) (htb _ tw_149) (fun _ h9 => h9) rfl d_E_advance_42 ?_
  refine lv_ldc2 (v := 1024) hx hb hown (htb _ tw_438) d_E_advance_45 ?_
  refine lv_ldiv hx hb d_E_advance_48 (by decide) ?_
  refine lv_l2i hx hb d_E_advance_49 rfl ?_
  obtain ⟨r_3, hc_4, hf⟩ := bd1_s hf
  refine ucVl (As := [.int dr, .int (Int64.toInt32 ((of + (Int32.toInt64 (if ((12 : Int32)) < r_1 then r_1 else ((12 : Int32))))) / ((1024 : Int64))))]) (rest := [.long ((1024 : Int64)), .ref (h 5)]) ⟨hx, hb, hml, hown, htb⟩ hK hP hD hS hA (fun hs => c_L_blockOf hc_4) (cwV 2 htb (gV tw_439 tw_419 tw_420 tw_71 tw_421) rfl rfl rfl (by decide +kernel) ⟨Nat.le_of_ble_eq_true rfl, Nat.le_of_ble_eq_true rfl⟩) 3 2 rfl rfl rfl rfl rfl hl.1 (Nat.le_of_ble_eq_true rfl) d_E_advance_50 ⟨Nat.zero_le _, Nat.zero_le _⟩ (fun H locs hP hD hS => ?_)
  refine lv_lmul hx hb d_E_advance_53 ?_
  refine lv_aload_n hx hb d_E_advance_54 rfl (lv_at hl 0 rfl) ?_
  refine va_get (D := (dC, dI)) (ci := 1) (v := .long (of + (Int32.toInt64 (if ((12 : Int32)) < r_1 then r_1 else ((12 : Int32)))))) (C := R_E) (T := T_E) (N := 8) hx hb htb in_E hown hK hP 5 rfl rfl 4 (by decide) (htb _ tw_149) (fun _ h9 => h9) rfl d_E_advance_55 ?_
  refine lv_ldc2 (v := 1024) hx hb hown (htb _ tw_438) d_E_advance_58 ?_
  refine lv_lrem hx hb d_E_advance_61 (by decide) ?_
  refine lv_ladd hx hb d_E_advance_62 ?_
  refine va_put (D := (dC, dI)) (ci := 1) (v := .long ((((1024 : Int64)) * r_3) + ((of + (Int32.toInt64 (if ((12 : Int32)) < r_1 then r_1 else ((12 : Int32))))) - (of + (Int32.toInt64 (if ((12 : Int32)) < r_1 then r_1 else ((12 : Int32))))) / ((1024 : Int64)) * ((1024 : Int64))))) (ty := .long) (C := R_E) (T := T_E) (N := 8) hx hb htb in_E ty_E tyok_E nm_E hown hK hP hD hS 5 rfl rfl 6 (by decide) (htb _ tw_151) (fun _ h9 => h9) rfl (by decide +kernel) rfl rfl (Nat.le_of_ble_eq_true rfl) d_E_advance_63 (fun H locs hP hD hS => ?_)
  have hP : va_P (dC, dI) clAll (wC h cI cL NW bk sz wd mb gB gI gN iN dr es (of + (Int32.toInt64 (if ((12 : Int32)) < r_1 then r_1 else ((12 : Int32))))) (od + ((1 : Int32))) ((((1024 : Int64)) * r_3) + ((of + (Int32.toInt64 (if ((12 : Int32)) < r_1 then r_1 else ((12 : Int32))))) - (of + (Int32.toInt64 (if ((12 : Int32)) < r_1 then r_1 else ((12 : Int32))))) / ((1024 : Int64)) * ((1024 : Int64)))) hd tk kn li pa ins cm fd hr) H := hP
  have hD : va_D A (wC h cI cL NW bk sz wd mb gB gI gN iN dr es (of + (Int32.toInt64 (if ((12 : Int32)) < r_1 then r_1 else ((12 : Int32))))) (od + ((1 : Int32))) ((((1024 : Int64)) * r_3) + ((of + (Int32.toInt64 (if ((12 : Int32)) < r_1 then r_1 else ((12 : Int32))))) - (of + (Int32.toInt64 (if ((12 : Int32)) < r_1 then r_1 else ((12 : Int32))))) / ((1024 : Int64)) * ((1024 : Int64)))) hd tk kn li pa ins cm fd hr) := hD
  refine lv_aload_n hx hb d_E_advance_66 rfl (lv_at hl 0 rfl) ?_
  refine lv_aload_n hx hb d_E_advance_67 rfl (lv_at hl 0 rfl) ?_
  refine va_get (D := (dC, dI)) (ci := 1) (v := .ref (h 1)) (C := R_E) (T := T_E) (N := 8) hx hb htb in_E hown hK hP 5 rfl rfl 0 (by decide) (htb _ tw_145) (fun _ h9 => h9) rfl d_E_advance_68 ?_
  refine lv_aload_n hx hb d_E_advance_71 rfl (lv_at hl 0 rfl) ?_
  refine va_get (D := (dC, dI)) (ci := 1) (v := .long ((((1024 : Int64)) * r_3) + ((of + (Int32.toInt64 (if ((12 : Int32)) < r_1 then r_1 else ((12 : Int32))))) - (of + (Int32.toInt64 (if ((12 : Int32)) < r_1 then r_1 else ((12 : Int32))))) / ((1024 : Int64)) * ((1024 : Int64))))) (C := R_E) (T := T_E) (N := 8) hx hb htb in_E hown hK hP 5 rfl rfl 6 (by decide) (htb _ tw_151) (fun _ h9 => h9) rfl d_E_advance_72 ?_
  refine lv_bipush (v := 8) hx hb d_E_advance_75 (by decide) ?_
  obtain ⟨r_5, hc_6, hf⟩ := bd1_s hf
  refine ucVl (As := [.long ((((1024 : Int64)) * r_3) + ((of + (Int32.toInt64 (if ((12 : Int32)) < r_1 then r_1 else ((12 : Int32))))) - (of + (Int32.toInt64 (if ((12 : Int32)) < r_1 then r_1 else ((12 : Int32))))) / ((1024 : Int64)) * ((1024 : Int64)))), .int ((8 : Int32))]) (rest := [.ref (h 5)]) ⟨hx, hb, hml, hown, htb⟩ hK hP hD hS hA (fun hs => c_D_number hc_6) (cwV 2 htb (gV tw_440 tw_264 tw_265 tw_69 tw_266) rfl rfl rfl (by decide +kernel) ⟨Nat.le_of_ble_eq_true rfl, Nat.le_of_ble_eq_true rfl⟩) 1 0 rfl rfl rfl rfl rfl hl.1 (Nat.le_of_ble_eq_true rfl) d_E_advance_77 ⟨Nat.zero_le _, Nat.zero_le _⟩ (fun H locs hP hD hS => ?_)
  refine va_put (D := (dC, dI)) (ci := 1) (v := .long r_5) (ty := .long) (C := R_E) (T := T_E) (N := 8) hx hb htb in_E ty_E tyok_E nm_E hown hK hP hD hS 5 rfl rfl 7 (by decide) (htb _ tw_152) (fun _ h9 => h9) rfl (by decide +kernel) rfl rfl (Nat.le_of_ble_eq_true rfl) d_E_advance_80 (fun H locs hP hD hS => ?_)
  have hP : va_P (dC, dI) clAll (wC h cI cL NW bk sz wd mb gB gI gN iN dr es (of + (Int32.toInt64 (if ((12 : Int32)) < r_1 then r_1 else ((12 : Int32))))) (od + ((1 : Int32))) ((((1024 : Int64)) * r_3) + ((of + (Int32.toInt64 (if ((12 : Int32)) < r_1 then r_1 else ((12 : Int32))))) - (of + (Int32.toInt64 (if ((12 : Int32)) < r_1 then r_1 else ((12 : Int32))))) / ((1024 : Int64)) * ((1024 : Int64)))) r_5 tk kn li pa ins cm fd hr) H := hP
  have hD : va_D A (wC h cI cL NW bk sz wd mb gB gI gN iN dr es (of + (Int32.toInt64 (if ((12 : Int32)) < r_1 then r_1 else ((12 : Int32))))) (od + ((1 : Int32))) ((((1024 : Int64)) * r_3) + ((of + (Int32.toInt64 (if ((12 : Int32)) < r_1 then r_1 else ((12 : Int32))))) - (of + (Int32.toInt64 (if ((12 : Int32)) < r_1 then r_1 else ((12 : Int32))))) / ((1024 : Int64)) * ((1024 : Int64)))) r_5 tk kn li pa ins cm fd hr) := hD
  cases hf
  exact hret _ _ _ _ hP hD hS d_E_advance_83
set_option maxHeartbeats 4000000 in
set_option maxRecDepth 100000 in
theorem c_E_isItem {l : Launch} {dC : Nat → ClassId} {dI : Nat → Nat → Nat} {h : Nat → Nat} {cI : ClassId} {cL : ClassId} {NW : Nat} {bk : Int32} {sz : Int32} {wd : Nat → Int64} {mb : Nat → Int32} {gB : Int32} {gI : Int32} {gN : Int32} {iN : Int32} {dr : Int32} {es : Int64} {of : Int64} {od : Int32} {pl : Int64} {hd : Int64} {tk : Nat → Int32} {kn : Nat → Int32} {li : Nat → Int32} {pa : Nat → Int32} {ins : Nat → Int32} {cm : Int32} {fd : Int32} {hr : Int32} {hs : Nat} {r : Int32} (hf : f_E_isItem NW od hd = some (r)) : Met l y_E_isItem ws_E_isItem { frames := 0, cells := 0, slots := 0, locals := 0 } (PcU (dC, dI) clAll [(cI, .int), (cL, .long)] (wC h cI cL NW bk sz wd mb gB gI gN iN dr es of od pl hd tk kn li pa ins cm fd hr) hs [.ref (h 5)]) (QUi (dC, dI) clAll [(cI, .int), (cL, .long)] (wC h cI cL NW bk sz wd mb gB gI gN iN dr es of od pl hd tk kn li pa ins cm fd hr) (wC h cI cL NW bk sz wd mb gB gI gN iN dr es of od pl hd tk kn li pa ins cm fd hr) hs r) 0 0 (va_A (wC h cI cL NW bk sz wd mb gB gI gN iN dr es of od pl hd tk kn li pa ins cm fd hr) hs) := by
  refine mUz (cc := b_E_isItem) (maxL := 1) (by decide) rfl (Nat.le_of_ble_eq_true rfl) ?_
  intro p e s m args below meth c Q hx hb hml hts hown A hA hK hP hD hS hret ls hl
  have htb : ∀ w ∈ TB, w.before args s = true := fun w h => hts w (List.mem_cons_of_mem _ h)
  have hl : lv_has ls 1 [(0, .ref (h 5))] := hl
  unfold f_E_isItem at hf
  refine lv_aload_n hx hb d_E_isItem_0 rfl (lv_at hl 0 rfl) ?_
  refine va_get (D := (dC, dI)) (ci := 1) (v := .int od) (C := R_E) (T := T_E) (N := 8) hx hb htb in_E hown hK hP 5 rfl rfl 5 (by decide) (htb _ tw_150) (fun _ h9 => h9) rfl d_E_isItem_1 ?_
  refine lv_iconst (v := 2) hx hb d_E_isItem_4 (by decide) ?_
  refine lv_icmp_lt (tgt := 25) hx hb d_E_isItem_5 (by decide) (fun c_1 => ?_) (fun c_1 => ?_)
  · have hf := ite_t c_1 hf
    refine lv_iconst (v := 0) hx hb d_E_isItem_25 (by decide) ?_
    cases hf
    exact hret _ _ _ _ (Or.inl rfl) hP hD hS d_E_isItem_26
  · have hf := ite_f c_1 hf
    refine lv_aload_n hx hb d_E_isItem_8 rfl (lv_at hl 0 rfl) ?_
    refine va_get (D := (dC, dI)) (ci := 1) (v := .long hd) (C := R_E) (T := T_E) (N := 8) hx hb htb in_E hown hK hP 5 rfl rfl 7 (by decide) (htb _ tw_152) (fun _ h9 => h9) rfl d_E_isItem_9 ?_
    refine lv_ldc2 (v := 4294967295) hx hb hown (htb _ tw_459) d_E_isItem_12 ?_
    refine lv_land hx hb d_E_isItem_15 ?_
    refine lv_lconst (v := 0) hx hb d_E_isItem_16 (by decide) ?_
    refine lc_eq (tgt := 25) hx hb d_E_isItem_17 d_E_isItem_18 (by decide) (fun c_2 => ?_) (fun c_2 => ?_)
    · have hf := ite_t c_2 hf
      refine lv_iconst (v := 0) hx hb d_E_isItem_25 (by decide) ?_
      cases hf
      exact hret _ _ _ _ (Or.inl rfl) hP hD hS d_E_isItem_26
    · have hf := ite_f c_2 hf
      refine lv_iconst (v := 1) hx hb d_E_isItem_21 (by decide) ?_
      refine lv_goto (tgt := 26) hx hb d_E_isItem_22 (by decide) ?_
      cases hf
      exact hret _ _ _ _ (Or.inr rfl) hP hD hS d_E_isItem_26
set_option maxHeartbeats 4000000 in
set_option maxRecDepth 100000 in
theorem c_E_nameByte {l : Launch} {dC : Nat → ClassId} {dI : Nat → Nat → Nat} {h : Nat → Nat} {cI : ClassId} {cL : ClassId} {NW : Nat} {bk : Int32} {sz : Int32} {wd : Nat → Int64} {mb : Nat → Int32} {gB : Int32} {gI : Int32} {gN : Int32} {iN : Int32} {dr : Int32} {es : Int64} {of : Int64} {od : Int32} {pl : Int64} {hd : Int64} {tk : Nat → Int32} {kn : Nat → Int32} {li : Nat → Int32} {pa : Nat → Int32} {ins : Nat → Int32} {cm : Int32} {fd : Int32} {hr : Int32} {hs : Nat} {a1 : Int32} {r : Int32} (hf : f_E_nameByte NW sz wd pl a1 = some (r)) : Met l y_E_nameByte ws_E_nameByte { frames := 1, cells := 0, slots := 0, locals := 27 } (PcU (dC, dI) clAll [(cI, .int), (cL, .long)] (wC h cI cL NW bk sz wd mb gB gI gN iN dr es of od pl hd tk kn li pa ins cm fd hr) hs [.ref (h 5), .int a1]) (QUi (dC, dI) clAll [(cI, .int), (cL, .long)] (wC h cI cL NW bk sz wd mb gB gI gN iN dr es of od pl hd tk kn li pa ins cm fd hr) (wC h cI cL NW bk sz wd mb gB gI gN iN dr es of od pl hd tk kn li pa ins cm fd hr) hs r) 0 0 (va_A (wC h cI cL NW bk sz wd mb gB gI gN iN dr es of od pl hd tk kn li pa ins cm fd hr) hs) := by
  refine mUi (cc := b_E_nameByte) (maxL := 2) (by decide) rfl (Nat.le_of_ble_eq_true rfl) ?_
  intro p e s m args below meth c Q hx hb hml hts hown A hA hK hP hD hS hret ls hl
  have htb : ∀ w ∈ TB, w.before args s = true := fun w h => hts w (List.mem_cons_of_mem _ h)
  have hl : lv_has ls 2 [(0, .ref (h 5)), (1, .int a1)] := hl
  unfold f_E_nameByte at hf
  refine lv_aload_n hx hb d_E_nameByte_0 rfl (lv_at hl 0 rfl) ?_
  refine va_get (D := (dC, dI)) (ci := 1) (v := .ref (h 1)) (C := R_E) (T := T_E) (N := 8) hx hb htb in_E hown hK hP 5 rfl rfl 0 (by decide) (htb _ tw_145) (fun _ h9 => h9) rfl d_E_nameByte_1 ?_
  refine lv_aload_n hx hb d_E_nameByte_4 rfl (lv_at hl 0 rfl) ?_
  refine va_get (D := (dC, dI)) (ci := 1) (v := .long pl) (C := R_E) (T := T_E) (N := 8) hx hb htb in_E hown hK hP 5 rfl rfl 6 (by decide) (htb _ tw_151) (fun _ h9 => h9) rfl d_E_nameByte_5 ?_
  refine lv_ldc2 (v := 8) hx hb hown (htb _ tw_480) d_E_nameByte_8 ?_
  refine lv_ladd hx hb d_E_nameByte_11 ?_
  refine lv_iload_n hx hb d_E_nameByte_12 rfl (lv_at hl 1 rfl) ?_
  refine lv_i2l hx hb d_E_nameByte_13 rfl ?_
  refine lv_ladd hx hb d_E_nameByte_14 ?_
  refine lv_iconst (v := 1) hx hb d_E_nameByte_15 (by decide) ?_
  obtain ⟨r_1, hc_2, hf⟩ := bd1_s hf
  refine ucVl (As := [.long ((pl + ((8 : Int64))) + (Int32.toInt64 a1)), .int ((1 : Int32))]) (rest := []) ⟨hx, hb, hml, hown, htb⟩ hK hP hD hS hA (fun hs => c_D_number hc_2) (cwV 2 htb (gV tw_440 tw_264 tw_265 tw_69 tw_266) rfl rfl rfl (by decide +kernel) ⟨Nat.le_of_ble_eq_true rfl, Nat.le_of_ble_eq_true rfl⟩) 1 0 rfl rfl rfl rfl rfl hl.1 (Nat.le_of_ble_eq_true rfl) d_E_nameByte_16 ⟨Nat.zero_le _, Nat.zero_le _⟩ (fun H locs hP hD hS => ?_)
  refine lv_l2i hx hb d_E_nameByte_19 rfl ?_
  cases hf
  exact hret _ _ _ _ hP hD hS d_E_nameByte_20
end
section
theorem d_S_forget_0 : decode b_S_forget 0 = .ok (.aload_n 0, 1) := by decide +kernel
theorem d_S_forget_1 : decode b_S_forget 1 = .ok (.iconst (-1), 1) := by decide +kernel
theorem d_S_forget_2 : decode b_S_forget 2 = .ok (.putfield 39, 3) := by decide +kernel
theorem d_S_forget_5 : decode b_S_forget 5 = .ok (.return_, 1) := by decide +kernel
theorem d_S_superblockHas_0 : decode b_S_superblockHas 0 = .ok (.aload_n 0, 1) := by decide +kernel
theorem d_S_superblockHas_1 : decode b_S_superblockHas 1 = .ok (.getfield 9, 3) := by decide +kernel
theorem d_S_superblockHas_4 : decode b_S_superblockHas 4 = .ok (.sipush 1024, 3) := by decide +kernel
theorem d_S_superblockHas_7 : decode b_S_superblockHas 7 = .ok (.iload_n 1, 1) := by decide +kernel
theorem d_S_superblockHas_8 : decode b_S_superblockHas 8 = .ok (.iadd, 1) := by decide +kernel
theorem d_S_superblockHas_9 : decode b_S_superblockHas 9 = .ok (.i2l, 1) := by decide +kernel
theorem d_S_superblockHas_10 : decode b_S_superblockHas 10 = .ok (.iload_n 2, 1) := by decide +kernel
theorem d_S_superblockHas_11 : decode b_S_superblockHas 11 = .ok (.invokevirtual 88, 3) := by decide +kernel
theorem d_S_superblockHas_14 : decode b_S_superblockHas 14 = .ok (.lload_n 3, 1) := by decide +kernel
theorem d_S_superblockHas_15 : decode b_S_superblockHas 15 = .ok (.lcmp, 1) := by decide +kernel
theorem d_S_superblockHas_16 : decode b_S_superblockHas 16 = .ok (.ifCond .ne 7, 3) := by decide +kernel
theorem d_S_superblockHas_19 : decode b_S_superblockHas 19 = .ok (.iconst 1, 1) := by decide +kernel
theorem d_S_superblockHas_20 : decode b_S_superblockHas 20 = .ok (.goto 4, 3) := by decide +kernel
theorem d_S_superblockHas_23 : decode b_S_superblockHas 23 = .ok (.iconst 0, 1) := by decide +kernel
theorem d_S_superblockHas_24 : decode b_S_superblockHas 24 = .ok (.ireturn, 1) := by decide +kernel
theorem d_S_superblockStands_0 : decode b_S_superblockStands 0 = .ok (.aload_n 0, 1) := by decide +kernel
theorem d_S_superblockStands_1 : decode b_S_superblockStands 1 = .ok (.getfield 15, 3) := by decide +kernel
theorem d_S_superblockStands_4 : decode b_S_superblockStands 4 = .ok (.invokevirtual 60, 3) := by decide +kernel
theorem d_S_superblockStands_7 : decode b_S_superblockStands 7 = .ok (.ifCond .eq 166, 3) := by decide +kernel
theorem d_S_superblockStands_10 : decode b_S_superblockStands 10 = .ok (.aload_n 0, 1) := by decide +kernel
theorem d_S_superblockStands_11 : decode b_S_superblockStands 11 = .ok (.iconst 0, 1) := by decide +kernel
theorem d_S_superblockStands_12 : decode b_S_superblockStands 12 = .ok (.iconst 4, 1) := by decide +kernel
theorem d_S_superblockStands_13 : decode b_S_superblockStands 13 = .ok (.aload_n 0, 1) := by decide +kernel
theorem d_S_superblockStands_14 : decode b_S_superblockStands 14 = .ok (.getfield 15, 3) := by decide +kernel
theorem d_S_superblockStands_17 : decode b_S_superblockStands 17 = .ok (.invokevirtual 65, 3) := by decide +kernel
theorem d_S_superblockStands_20 : decode b_S_superblockStands 20 = .ok (.i2l, 1) := by decide +kernel
theorem d_S_superblockStands_21 : decode b_S_superblockStands 21 = .ok (.invokevirtual 68, 3) := by decide +kernel
theorem d_S_superblockStands_24 : decode b_S_superblockStands 24 = .ok (.ifCond .eq 149, 3) := by decide +kernel
theorem d_S_superblockStands_27 : decode b_S_superblockStands 27 = .ok (.aload_n 0, 1) := by decide +kernel
theorem d_S_superblockStands_28 : decode b_S_superblockStands 28 = .ok (.iconst 4, 1) := by decide +kernel
theorem d_S_superblockStands_29 : decode b_S_superblockStands 29 = .ok (.iconst 4, 1) := by decide +kernel
theorem d_S_superblockStands_30 : decode b_S_superblockStands 30 = .ok (.aload_n 0, 1) := by decide +kernel
theorem d_S_superblockStands_31 : decode b_S_superblockStands 31 = .ok (.getfield 9, 3) := by decide +kernel
theorem d_S_superblockStands_34 : decode b_S_superblockStands 34 = .ok (.invokevirtual 72, 3) := by decide +kernel
theorem d_S_superblockStands_37 : decode b_S_superblockStands 37 = .ok (.i2l, 1) := by decide +kernel
theorem d_S_superblockStands_38 : decode b_S_superblockStands 38 = .ok (.invokevirtual 68, 3) := by decide +kernel
theorem d_S_superblockStands_41 : decode b_S_superblockStands 41 = .ok (.ifCond .eq 132, 3) := by decide +kernel
theorem d_S_superblockStands_44 : decode b_S_superblockStands 44 = .ok (.aload_n 0, 1) := by decide +kernel
theorem d_S_superblockStands_45 : decode b_S_superblockStands 45 = .ok (.bipush 20, 2) := by decide +kernel
theorem d_S_superblockStands_47 : decode b_S_superblockStands 47 = .ok (.iconst 4, 1) := by decide +kernel
theorem d_S_superblockStands_48 : decode b_S_superblockStands 48 = .ok (.lconst 1, 1) := by decide +kernel
theorem d_S_superblockStands_49 : decode b_S_superblockStands 49 = .ok (.invokevirtual 68, 3) := by decide +kernel
theorem d_S_superblockStands_52 : decode b_S_superblockStands 52 = .ok (.ifCond .eq 121, 3) := by decide +kernel
theorem d_S_superblockStands_55 : decode b_S_superblockStands 55 = .ok (.aload_n 0, 1) := by decide +kernel
theorem d_S_superblockStands_56 : decode b_S_superblockStands 56 = .ok (.bipush 24, 2) := by decide +kernel
theorem d_S_superblockStands_58 : decode b_S_superblockStands 58 = .ok (.iconst 4, 1) := by decide +kernel
theorem d_S_superblockStands_59 : decode b_S_superblockStands 59 = .ok (.lconst 0, 1) := by decide +kernel
theorem d_S_superblockStands_60 : decode b_S_superblockStands 60 = .ok (.invokevirtual 68, 3) := by decide +kernel
theorem d_S_superblockStands_63 : decode b_S_superblockStands 63 = .ok (.ifCond .eq 110, 3) := by decide +kernel
theorem d_S_superblockStands_66 : decode b_S_superblockStands 66 = .ok (.aload_n 0, 1) := by decide +kernel
theorem d_S_superblockStands_67 : decode b_S_superblockStands 67 = .ok (.bipush 36, 2) := by decide +kernel
theorem d_S_superblockStands_69 : decode b_S_superblockStands 69 = .ok (.iconst 4, 1) := by decide +kernel
theorem d_S_superblockStands_70 : decode b_S_superblockStands 70 = .ok (.aload_n 0, 1) := by decide +kernel
theorem d_S_superblockStands_71 : decode b_S_superblockStands 71 = .ok (.getfield 15, 3) := by decide +kernel
theorem d_S_superblockStands_74 : decode b_S_superblockStands 74 = .ok (.invokevirtual 77, 3) := by decide +kernel
theorem d_S_superblockStands_77 : decode b_S_superblockStands 77 = .ok (.i2l, 1) := by decide +kernel
theorem d_S_superblockStands_78 : decode b_S_superblockStands 78 = .ok (.invokevirtual 68, 3) := by decide +kernel
theorem d_S_superblockStands_81 : decode b_S_superblockStands 81 = .ok (.ifCond .eq 92, 3) := by decide +kernel
theorem d_S_superblockStands_84 : decode b_S_superblockStands 84 = .ok (.aload_n 0, 1) := by decide +kernel
theorem d_S_superblockStands_85 : decode b_S_superblockStands 85 = .ok (.bipush 56, 2) := by decide +kernel
theorem d_S_superblockStands_87 : decode b_S_superblockStands 87 = .ok (.iconst 2, 1) := by decide +kernel
theorem d_S_superblockStands_88 : decode b_S_superblockStands 88 = .ok (.ldc2_w 80, 3) := by decide +kernel
theorem d_S_superblockStands_91 : decode b_S_superblockStands 91 = .ok (.invokevirtual 68, 3) := by decide +kernel
theorem d_S_superblockStands_94 : decode b_S_superblockStands 94 = .ok (.ifCond .eq 79, 3) := by decide +kernel
theorem d_S_superblockStands_97 : decode b_S_superblockStands 97 = .ok (.aload_n 0, 1) := by decide +kernel
theorem d_S_superblockStands_98 : decode b_S_superblockStands 98 = .ok (.bipush 58, 2) := by decide +kernel
theorem d_S_superblockStands_100 : decode b_S_superblockStands 100 = .ok (.iconst 2, 1) := by decide +kernel
theorem d_S_superblockStands_101 : decode b_S_superblockStands 101 = .ok (.lconst 1, 1) := by decide +kernel
theorem d_S_superblockStands_102 : decode b_S_superblockStands 102 = .ok (.invokevirtual 68, 3) := by decide +kernel
theorem d_S_superblockStands_105 : decode b_S_superblockStands 105 = .ok (.ifCond .eq 68, 3) := by decide +kernel
theorem d_S_superblockStands_108 : decode b_S_superblockStands 108 = .ok (.aload_n 0, 1) := by decide +kernel
theorem d_S_superblockStands_109 : decode b_S_superblockStands 109 = .ok (.bipush 76, 2) := by decide +kernel
theorem d_S_superblockStands_111 : decode b_S_superblockStands 111 = .ok (.iconst 4, 1) := by decide +kernel
theorem d_S_superblockStands_112 : decode b_S_superblockStands 112 = .ok (.lconst 1, 1) := by decide +kernel
theorem d_S_superblockStands_113 : decode b_S_superblockStands 113 = .ok (.invokevirtual 68, 3) := by decide +kernel
theorem d_S_superblockStands_116 : decode b_S_superblockStands 116 = .ok (.ifCond .eq 57, 3) := by decide +kernel
theorem d_S_superblockStands_119 : decode b_S_superblockStands 119 = .ok (.aload_n 0, 1) := by decide +kernel
theorem d_S_superblockStands_120 : decode b_S_superblockStands 120 = .ok (.bipush 84, 2) := by decide +kernel
theorem d_S_superblockStands_122 : decode b_S_superblockStands 122 = .ok (.iconst 4, 1) := by decide +kernel
theorem d_S_superblockStands_123 : decode b_S_superblockStands 123 = .ok (.ldc2_w 82, 3) := by decide +kernel
theorem d_S_superblockStands_126 : decode b_S_superblockStands 126 = .ok (.invokevirtual 68, 3) := by decide +kernel
theorem d_S_superblockStands_129 : decode b_S_superblockStands 129 = .ok (.ifCond .eq 44, 3) := by decide +kernel
theorem d_S_superblockStands_132 : decode b_S_superblockStands 132 = .ok (.aload_n 0, 1) := by decide +kernel
theorem d_S_superblockStands_133 : decode b_S_superblockStands 133 = .ok (.bipush 88, 2) := by decide +kernel
theorem d_S_superblockStands_135 : decode b_S_superblockStands 135 = .ok (.iconst 2, 1) := by decide +kernel
theorem d_S_superblockStands_136 : decode b_S_superblockStands 136 = .ok (.ldc2_w 84, 3) := by decide +kernel
theorem d_S_superblockStands_139 : decode b_S_superblockStands 139 = .ok (.invokevirtual 68, 3) := by decide +kernel
theorem d_S_superblockStands_142 : decode b_S_superblockStands 142 = .ok (.ifCond .eq 31, 3) := by decide +kernel
theorem d_S_superblockStands_145 : decode b_S_superblockStands 145 = .ok (.aload_n 0, 1) := by decide +kernel
theorem d_S_superblockStands_146 : decode b_S_superblockStands 146 = .ok (.bipush 90, 2) := by decide +kernel
theorem d_S_superblockStands_148 : decode b_S_superblockStands 148 = .ok (.iconst 2, 1) := by decide +kernel
theorem d_S_superblockStands_149 : decode b_S_superblockStands 149 = .ok (.lconst 0, 1) := by decide +kernel
theorem d_S_superblockStands_150 : decode b_S_superblockStands 150 = .ok (.invokevirtual 68, 3) := by decide +kernel
theorem d_S_superblockStands_153 : decode b_S_superblockStands 153 = .ok (.ifCond .eq 20, 3) := by decide +kernel
theorem d_S_superblockStands_156 : decode b_S_superblockStands 156 = .ok (.aload_n 0, 1) := by decide +kernel
theorem d_S_superblockStands_157 : decode b_S_superblockStands 157 = .ok (.bipush 96, 2) := by decide +kernel
theorem d_S_superblockStands_159 : decode b_S_superblockStands 159 = .ok (.iconst 4, 1) := by decide +kernel
theorem d_S_superblockStands_160 : decode b_S_superblockStands 160 = .ok (.ldc2_w 86, 3) := by decide +kernel
theorem d_S_superblockStands_163 : decode b_S_superblockStands 163 = .ok (.invokevirtual 68, 3) := by decide +kernel
theorem d_S_superblockStands_166 : decode b_S_superblockStands 166 = .ok (.ifCond .eq 7, 3) := by decide +kernel
theorem d_S_superblockStands_169 : decode b_S_superblockStands 169 = .ok (.iconst 1, 1) := by decide +kernel
theorem d_S_superblockStands_170 : decode b_S_superblockStands 170 = .ok (.goto 4, 3) := by decide +kernel
theorem d_S_superblockStands_173 : decode b_S_superblockStands 173 = .ok (.iconst 0, 1) := by decide +kernel
theorem d_S_superblockStands_174 : decode b_S_superblockStands 174 = .ok (.ireturn, 1) := by decide +kernel
theorem d_S_hasCopies_0 : decode b_S_hasCopies 0 = .ok (.ldc2_w 103, 3) := by decide +kernel
theorem d_S_hasCopies_3 : decode b_S_hasCopies 3 = .ok (.aload_n 0, 1) := by decide +kernel
theorem d_S_hasCopies_4 : decode b_S_hasCopies 4 = .ok (.getfield 15, 3) := by decide +kernel
theorem d_S_hasCopies_7 : decode b_S_hasCopies 7 = .ok (.iload_n 1, 1) := by decide +kernel
theorem d_S_hasCopies_8 : decode b_S_hasCopies 8 = .ok (.invokevirtual 105, 3) := by decide +kernel
theorem d_S_hasCopies_11 : decode b_S_hasCopies 11 = .ok (.i2l, 1) := by decide +kernel
theorem d_S_hasCopies_12 : decode b_S_hasCopies 12 = .ok (.lmul, 1) := by decide +kernel
theorem d_S_hasCopies_13 : decode b_S_hasCopies 13 = .ok (.lstore_n 2, 1) := by decide +kernel
theorem d_S_hasCopies_14 : decode b_S_hasCopies 14 = .ok (.iconst 0, 1) := by decide +kernel
theorem d_S_hasCopies_15 : decode b_S_hasCopies 15 = .ok (.istore 4, 2) := by decide +kernel
theorem d_S_hasCopies_17 : decode b_S_hasCopies 17 = .ok (.iload 4, 2) := by decide +kernel
theorem d_S_hasCopies_19 : decode b_S_hasCopies 19 = .ok (.sipush 2048, 3) := by decide +kernel
theorem d_S_hasCopies_22 : decode b_S_hasCopies 22 = .ok (.if_icmp .ge 66, 3) := by decide +kernel
theorem d_S_hasCopies_25 : decode b_S_hasCopies 25 = .ok (.aload_n 0, 1) := by decide +kernel
theorem d_S_hasCopies_26 : decode b_S_hasCopies 26 = .ok (.getfield 9, 3) := by decide +kernel
theorem d_S_hasCopies_29 : decode b_S_hasCopies 29 = .ok (.sipush 1024, 3) := by decide +kernel
theorem d_S_hasCopies_32 : decode b_S_hasCopies 32 = .ok (.iload 4, 2) := by decide +kernel
theorem d_S_hasCopies_34 : decode b_S_hasCopies 34 = .ok (.iadd, 1) := by decide +kernel
theorem d_S_hasCopies_35 : decode b_S_hasCopies 35 = .ok (.i2l, 1) := by decide +kernel
theorem d_S_hasCopies_36 : decode b_S_hasCopies 36 = .ok (.bipush 8, 2) := by decide +kernel
theorem d_S_hasCopies_38 : decode b_S_hasCopies 38 = .ok (.invokevirtual 88, 3) := by decide +kernel
theorem d_S_hasCopies_41 : decode b_S_hasCopies 41 = .ok (.lstore 5, 2) := by decide +kernel
theorem d_S_hasCopies_43 : decode b_S_hasCopies 43 = .ok (.iload 4, 2) := by decide +kernel
theorem d_S_hasCopies_45 : decode b_S_hasCopies 45 = .ok (.bipush 88, 2) := by decide +kernel
theorem d_S_hasCopies_47 : decode b_S_hasCopies 47 = .ok (.if_icmp .ne 13, 3) := by decide +kernel
theorem d_S_hasCopies_50 : decode b_S_hasCopies 50 = .ok (.lload 5, 2) := by decide +kernel
theorem d_S_hasCopies_52 : decode b_S_hasCopies 52 = .ok (.iload_n 1, 1) := by decide +kernel
theorem d_S_hasCopies_53 : decode b_S_hasCopies 53 = .ok (.i2l, 1) := by decide +kernel
theorem d_S_hasCopies_54 : decode b_S_hasCopies 54 = .ok (.bipush 16, 2) := by decide +kernel
theorem d_S_hasCopies_56 : decode b_S_hasCopies 56 = .ok (.lshl, 1) := by decide +kernel
theorem d_S_hasCopies_57 : decode b_S_hasCopies 57 = .ok (.lor, 1) := by decide +kernel
theorem d_S_hasCopies_58 : decode b_S_hasCopies 58 = .ok (.lstore 5, 2) := by decide +kernel
theorem d_S_hasCopies_60 : decode b_S_hasCopies 60 = .ok (.aload_n 0, 1) := by decide +kernel
theorem d_S_hasCopies_61 : decode b_S_hasCopies 61 = .ok (.getfield 9, 3) := by decide +kernel
theorem d_S_hasCopies_64 : decode b_S_hasCopies 64 = .ok (.lload_n 2, 1) := by decide +kernel
theorem d_S_hasCopies_65 : decode b_S_hasCopies 65 = .ok (.iload 4, 2) := by decide +kernel
theorem d_S_hasCopies_67 : decode b_S_hasCopies 67 = .ok (.i2l, 1) := by decide +kernel
theorem d_S_hasCopies_68 : decode b_S_hasCopies 68 = .ok (.ladd, 1) := by decide +kernel
theorem d_S_hasCopies_69 : decode b_S_hasCopies 69 = .ok (.bipush 8, 2) := by decide +kernel
theorem d_S_hasCopies_71 : decode b_S_hasCopies 71 = .ok (.invokevirtual 88, 3) := by decide +kernel
theorem d_S_hasCopies_74 : decode b_S_hasCopies 74 = .ok (.lload 5, 2) := by decide +kernel
theorem d_S_hasCopies_76 : decode b_S_hasCopies 76 = .ok (.lcmp, 1) := by decide +kernel
theorem d_S_hasCopies_77 : decode b_S_hasCopies 77 = .ok (.ifCond .eq 5, 3) := by decide +kernel
theorem d_S_hasCopies_80 : decode b_S_hasCopies 80 = .ok (.iconst 0, 1) := by decide +kernel
theorem d_S_hasCopies_81 : decode b_S_hasCopies 81 = .ok (.ireturn, 1) := by decide +kernel
theorem d_S_hasCopies_82 : decode b_S_hasCopies 82 = .ok (.iinc 4 8, 3) := by decide +kernel
theorem d_S_hasCopies_85 : decode b_S_hasCopies 85 = .ok (.goto (-68), 3) := by decide +kernel
theorem d_S_hasCopies_88 : decode b_S_hasCopies 88 = .ok (.iconst 1, 1) := by decide +kernel
theorem d_S_hasCopies_89 : decode b_S_hasCopies 89 = .ok (.ireturn, 1) := by decide +kernel
theorem d_S_copiesStand_0 : decode b_S_copiesStand 0 = .ok (.iconst 1, 1) := by decide +kernel
theorem d_S_copiesStand_1 : decode b_S_copiesStand 1 = .ok (.istore_n 1, 1) := by decide +kernel
theorem d_S_copiesStand_2 : decode b_S_copiesStand 2 = .ok (.iload_n 1, 1) := by decide +kernel
theorem d_S_copiesStand_3 : decode b_S_copiesStand 3 = .ok (.aload_n 0, 1) := by decide +kernel
theorem d_S_copiesStand_4 : decode b_S_copiesStand 4 = .ok (.getfield 15, 3) := by decide +kernel
theorem d_S_copiesStand_7 : decode b_S_copiesStand 7 = .ok (.invokevirtual 92, 3) := by decide +kernel
theorem d_S_copiesStand_10 : decode b_S_copiesStand 10 = .ok (.if_icmp .ge 31, 3) := by decide +kernel
theorem d_S_copiesStand_13 : decode b_S_copiesStand 13 = .ok (.aload_n 0, 1) := by decide +kernel
theorem d_S_copiesStand_14 : decode b_S_copiesStand 14 = .ok (.getfield 15, 3) := by decide +kernel
theorem d_S_copiesStand_17 : decode b_S_copiesStand 17 = .ok (.iload_n 1, 1) := by decide +kernel
theorem d_S_copiesStand_18 : decode b_S_copiesStand 18 = .ok (.invokevirtual 95, 3) := by decide +kernel
theorem d_S_copiesStand_21 : decode b_S_copiesStand 21 = .ok (.iconst 2, 1) := by decide +kernel
theorem d_S_copiesStand_22 : decode b_S_copiesStand 22 = .ok (.if_icmp .lt 11, 3) := by decide +kernel
theorem d_S_copiesStand_25 : decode b_S_copiesStand 25 = .ok (.aload_n 0, 1) := by decide +kernel
theorem d_S_copiesStand_26 : decode b_S_copiesStand 26 = .ok (.iload_n 1, 1) := by decide +kernel
theorem d_S_copiesStand_27 : decode b_S_copiesStand 27 = .ok (.invokevirtual 99, 3) := by decide +kernel
theorem d_S_copiesStand_30 : decode b_S_copiesStand 30 = .ok (.ifCond .ne 5, 3) := by decide +kernel
theorem d_S_copiesStand_33 : decode b_S_copiesStand 33 = .ok (.iconst 0, 1) := by decide +kernel
theorem d_S_copiesStand_34 : decode b_S_copiesStand 34 = .ok (.ireturn, 1) := by decide +kernel
theorem d_S_copiesStand_35 : decode b_S_copiesStand 35 = .ok (.iinc 1 1, 3) := by decide +kernel
theorem d_S_copiesStand_38 : decode b_S_copiesStand 38 = .ok (.goto (-36), 3) := by decide +kernel
theorem d_S_copiesStand_41 : decode b_S_copiesStand 41 = .ok (.iconst 1, 1) := by decide +kernel
theorem d_S_copiesStand_42 : decode b_S_copiesStand 42 = .ok (.ireturn, 1) := by decide +kernel
theorem d_S_fix_0 : decode b_S_fix 0 = .ok (.iload_n 1, 1) := by decide +kernel
theorem d_S_fix_1 : decode b_S_fix 1 = .ok (.iconst 0, 1) := by decide +kernel
theorem d_S_fix_2 : decode b_S_fix 2 = .ok (.invokestatic 128, 3) := by decide +kernel
theorem d_S_fix_5 : decode b_S_fix 5 = .ok (.istore_n 3, 1) := by decide +kernel
theorem d_S_fix_6 : decode b_S_fix 6 = .ok (.iload_n 3, 1) := by decide +kernel
theorem d_S_fix_7 : decode b_S_fix 7 = .ok (.iload_n 1, 1) := by decide +kernel
theorem d_S_fix_8 : decode b_S_fix 8 = .ok (.iload_n 2, 1) := by decide +kernel
theorem d_S_fix_9 : decode b_S_fix 9 = .ok (.iadd, 1) := by decide +kernel
theorem d_S_fix_10 : decode b_S_fix 10 = .ok (.if_icmp .ge 25, 3) := by decide +kernel
theorem d_S_fix_13 : decode b_S_fix 13 = .ok (.iload_n 3, 1) := by decide +kernel
theorem d_S_fix_14 : decode b_S_fix 14 = .ok (.aload_n 0, 1) := by decide +kernel
theorem d_S_fix_15 : decode b_S_fix 15 = .ok (.getfield 23, 3) := by decide +kernel
theorem d_S_fix_18 : decode b_S_fix 18 = .ok (.arraylength, 1) := by decide +kernel
theorem d_S_fix_19 : decode b_S_fix 19 = .ok (.if_icmp .ge 16, 3) := by decide +kernel
theorem d_S_fix_22 : decode b_S_fix 22 = .ok (.aload_n 0, 1) := by decide +kernel
theorem d_S_fix_23 : decode b_S_fix 23 = .ok (.getfield 23, 3) := by decide +kernel
theorem d_S_fix_26 : decode b_S_fix 26 = .ok (.iload_n 3, 1) := by decide +kernel
theorem d_S_fix_27 : decode b_S_fix 27 = .ok (.iconst 1, 1) := by decide +kernel
theorem d_S_fix_28 : decode b_S_fix 28 = .ok (.iastore, 1) := by decide +kernel
theorem d_S_fix_29 : decode b_S_fix 29 = .ok (.iinc 3 1, 3) := by decide +kernel
theorem d_S_fix_32 : decode b_S_fix 32 = .ok (.goto (-26), 3) := by decide +kernel
theorem d_S_fix_35 : decode b_S_fix 35 = .ok (.return_, 1) := by decide +kernel
theorem d_S_groupsStand_0 : decode b_S_groupsStand 0 = .ok (.aload_n 0, 1) := by decide +kernel
theorem d_S_groupsStand_1 : decode b_S_groupsStand 1 = .ok (.getfield 23, 3) := by decide +kernel
theorem d_S_groupsStand_4 : decode b_S_groupsStand 4 = .ok (.iconst 0, 1) := by decide +kernel
theorem d_S_groupsStand_5 : decode b_S_groupsStand 5 = .ok (.invokestatic 108, 3) := by decide +kernel
theorem d_S_groupsStand_8 : decode b_S_groupsStand 8 = .ok (.iconst 0, 1) := by decide +kernel
theorem d_S_groupsStand_9 : decode b_S_groupsStand 9 = .ok (.istore_n 1, 1) := by decide +kernel
theorem d_S_groupsStand_10 : decode b_S_groupsStand 10 = .ok (.iload_n 1, 1) := by decide +kernel
theorem d_S_groupsStand_11 : decode b_S_groupsStand 11 = .ok (.aload_n 0, 1) := by decide +kernel
theorem d_S_groupsStand_12 : decode b_S_groupsStand 12 = .ok (.getfield 15, 3) := by decide +kernel
theorem d_S_groupsStand_15 : decode b_S_groupsStand 15 = .ok (.invokevirtual 92, 3) := by decide +kernel
theorem d_S_groupsStand_18 : decode b_S_groupsStand 18 = .ok (.if_icmp .ge 150, 3) := by decide +kernel
theorem d_S_groupsStand_21 : decode b_S_groupsStand 21 = .ok (.aload_n 0, 1) := by decide +kernel
theorem d_S_groupsStand_22 : decode b_S_groupsStand 22 = .ok (.getfield 15, 3) := by decide +kernel
theorem d_S_groupsStand_25 : decode b_S_groupsStand 25 = .ok (.iload_n 1, 1) := by decide +kernel
theorem d_S_groupsStand_26 : decode b_S_groupsStand 26 = .ok (.invokevirtual 105, 3) := by decide +kernel
theorem d_S_groupsStand_29 : decode b_S_groupsStand 29 = .ok (.istore_n 2, 1) := by decide +kernel
theorem d_S_groupsStand_30 : decode b_S_groupsStand 30 = .ok (.iload_n 2, 1) := by decide +kernel
theorem d_S_groupsStand_31 : decode b_S_groupsStand 31 = .ok (.aload_n 0, 1) := by decide +kernel
theorem d_S_groupsStand_32 : decode b_S_groupsStand 32 = .ok (.getfield 15, 3) := by decide +kernel
theorem d_S_groupsStand_35 : decode b_S_groupsStand 35 = .ok (.iload_n 1, 1) := by decide +kernel
theorem d_S_groupsStand_36 : decode b_S_groupsStand 36 = .ok (.invokevirtual 95, 3) := by decide +kernel
theorem d_S_groupsStand_39 : decode b_S_groupsStand 39 = .ok (.iadd, 1) := by decide +kernel
theorem d_S_groupsStand_40 : decode b_S_groupsStand 40 = .ok (.istore_n 3, 1) := by decide +kernel
theorem d_S_groupsStand_41 : decode b_S_groupsStand 41 = .ok (.aload_n 0, 1) := by decide +kernel
theorem d_S_groupsStand_42 : decode b_S_groupsStand 42 = .ok (.getfield 15, 3) := by decide +kernel
theorem d_S_groupsStand_45 : decode b_S_groupsStand 45 = .ok (.invokevirtual 114, 3) := by decide +kernel
theorem d_S_groupsStand_48 : decode b_S_groupsStand 48 = .ok (.bipush 8, 2) := by decide +kernel
theorem d_S_groupsStand_50 : decode b_S_groupsStand 50 = .ok (.idiv, 1) := by decide +kernel
theorem d_S_groupsStand_51 : decode b_S_groupsStand 51 = .ok (.istore 4, 2) := by decide +kernel
theorem d_S_groupsStand_53 : decode b_S_groupsStand 53 = .ok (.aload_n 0, 1) := by decide +kernel
theorem d_S_groupsStand_54 : decode b_S_groupsStand 54 = .ok (.getfield 15, 3) := by decide +kernel
theorem d_S_groupsStand_57 : decode b_S_groupsStand 57 = .ok (.iload_n 1, 1) := by decide +kernel
theorem d_S_groupsStand_58 : decode b_S_groupsStand 58 = .ok (.iconst 0, 1) := by decide +kernel
theorem d_S_groupsStand_59 : decode b_S_groupsStand 59 = .ok (.iconst 4, 1) := by decide +kernel
theorem d_S_groupsStand_60 : decode b_S_groupsStand 60 = .ok (.invokevirtual 117, 3) := by decide +kernel
theorem d_S_groupsStand_63 : decode b_S_groupsStand 63 = .ok (.lstore 5, 2) := by decide +kernel
theorem d_S_groupsStand_65 : decode b_S_groupsStand 65 = .ok (.lload 5, 2) := by decide +kernel
theorem d_S_groupsStand_67 : decode b_S_groupsStand 67 = .ok (.iload_n 2, 1) := by decide +kernel
theorem d_S_groupsStand_68 : decode b_S_groupsStand 68 = .ok (.iconst 2, 1) := by decide +kernel
theorem d_S_groupsStand_69 : decode b_S_groupsStand 69 = .ok (.iadd, 1) := by decide +kernel
theorem d_S_groupsStand_70 : decode b_S_groupsStand 70 = .ok (.i2l, 1) := by decide +kernel
theorem d_S_groupsStand_71 : decode b_S_groupsStand 71 = .ok (.lcmp, 1) := by decide +kernel
theorem d_S_groupsStand_72 : decode b_S_groupsStand 72 = .ok (.ifCond .lt 19, 3) := by decide +kernel
theorem d_S_groupsStand_75 : decode b_S_groupsStand 75 = .ok (.lload 5, 2) := by decide +kernel
theorem d_S_groupsStand_77 : decode b_S_groupsStand 77 = .ok (.ldc2_w 86, 3) := by decide +kernel
theorem d_S_groupsStand_80 : decode b_S_groupsStand 80 = .ok (.ladd, 1) := by decide +kernel
theorem d_S_groupsStand_81 : decode b_S_groupsStand 81 = .ok (.iload 4, 2) := by decide +kernel
theorem d_S_groupsStand_83 : decode b_S_groupsStand 83 = .ok (.i2l, 1) := by decide +kernel
theorem d_S_groupsStand_84 : decode b_S_groupsStand 84 = .ok (.ladd, 1) := by decide +kernel
theorem d_S_groupsStand_85 : decode b_S_groupsStand 85 = .ok (.iload_n 3, 1) := by decide +kernel
theorem d_S_groupsStand_86 : decode b_S_groupsStand 86 = .ok (.i2l, 1) := by decide +kernel
theorem d_S_groupsStand_87 : decode b_S_groupsStand 87 = .ok (.lcmp, 1) := by decide +kernel
theorem d_S_groupsStand_88 : decode b_S_groupsStand 88 = .ok (.ifCond .le 5, 3) := by decide +kernel
theorem d_S_groupsStand_91 : decode b_S_groupsStand 91 = .ok (.iconst 0, 1) := by decide +kernel
theorem d_S_groupsStand_92 : decode b_S_groupsStand 92 = .ok (.ireturn, 1) := by decide +kernel
theorem d_S_groupsStand_93 : decode b_S_groupsStand 93 = .ok (.aload_n 0, 1) := by decide +kernel
theorem d_S_groupsStand_94 : decode b_S_groupsStand 94 = .ok (.getfield 15, 3) := by decide +kernel
theorem d_S_groupsStand_97 : decode b_S_groupsStand 97 = .ok (.iload_n 1, 1) := by decide +kernel
theorem d_S_groupsStand_98 : decode b_S_groupsStand 98 = .ok (.iconst 4, 1) := by decide +kernel
theorem d_S_groupsStand_99 : decode b_S_groupsStand 99 = .ok (.iconst 4, 1) := by decide +kernel
theorem d_S_groupsStand_100 : decode b_S_groupsStand 100 = .ok (.invokevirtual 117, 3) := by decide +kernel
theorem d_S_groupsStand_103 : decode b_S_groupsStand 103 = .ok (.lload 5, 2) := by decide +kernel
theorem d_S_groupsStand_105 : decode b_S_groupsStand 105 = .ok (.lconst 1, 1) := by decide +kernel
theorem d_S_groupsStand_106 : decode b_S_groupsStand 106 = .ok (.ladd, 1) := by decide +kernel
theorem d_S_groupsStand_107 : decode b_S_groupsStand 107 = .ok (.lcmp, 1) := by decide +kernel
theorem d_S_groupsStand_108 : decode b_S_groupsStand 108 = .ok (.ifCond .ne 24, 3) := by decide +kernel
theorem d_S_groupsStand_111 : decode b_S_groupsStand 111 = .ok (.aload_n 0, 1) := by decide +kernel
theorem d_S_groupsStand_112 : decode b_S_groupsStand 112 = .ok (.getfield 15, 3) := by decide +kernel
theorem d_S_groupsStand_115 : decode b_S_groupsStand 115 = .ok (.iload_n 1, 1) := by decide +kernel
theorem d_S_groupsStand_116 : decode b_S_groupsStand 116 = .ok (.bipush 8, 2) := by decide +kernel
theorem d_S_groupsStand_118 : decode b_S_groupsStand 118 = .ok (.iconst 4, 1) := by decide +kernel
theorem d_S_groupsStand_119 : decode b_S_groupsStand 119 = .ok (.invokevirtual 117, 3) := by decide +kernel
theorem d_S_groupsStand_122 : decode b_S_groupsStand 122 = .ok (.lload 5, 2) := by decide +kernel
theorem d_S_groupsStand_124 : decode b_S_groupsStand 124 = .ok (.ldc2_w 86, 3) := by decide +kernel
theorem d_S_groupsStand_127 : decode b_S_groupsStand 127 = .ok (.ladd, 1) := by decide +kernel
theorem d_S_groupsStand_128 : decode b_S_groupsStand 128 = .ok (.lcmp, 1) := by decide +kernel
theorem d_S_groupsStand_129 : decode b_S_groupsStand 129 = .ok (.ifCond .eq 5, 3) := by decide +kernel
theorem d_S_groupsStand_132 : decode b_S_groupsStand 132 = .ok (.iconst 0, 1) := by decide +kernel
theorem d_S_groupsStand_133 : decode b_S_groupsStand 133 = .ok (.ireturn, 1) := by decide +kernel
theorem d_S_groupsStand_134 : decode b_S_groupsStand 134 = .ok (.aload_n 0, 1) := by decide +kernel
theorem d_S_groupsStand_135 : decode b_S_groupsStand 135 = .ok (.getfield 15, 3) := by decide +kernel
theorem d_S_groupsStand_138 : decode b_S_groupsStand 138 = .ok (.iload_n 1, 1) := by decide +kernel
theorem d_S_groupsStand_139 : decode b_S_groupsStand 139 = .ok (.lload 5, 2) := by decide +kernel
theorem d_S_groupsStand_141 : decode b_S_groupsStand 141 = .ok (.l2i, 1) := by decide +kernel
theorem d_S_groupsStand_142 : decode b_S_groupsStand 142 = .ok (.invokevirtual 121, 3) := by decide +kernel
theorem d_S_groupsStand_145 : decode b_S_groupsStand 145 = .ok (.aload_n 0, 1) := by decide +kernel
theorem d_S_groupsStand_146 : decode b_S_groupsStand 146 = .ok (.iload_n 2, 1) := by decide +kernel
theorem d_S_groupsStand_147 : decode b_S_groupsStand 147 = .ok (.iconst 2, 1) := by decide +kernel
theorem d_S_groupsStand_148 : decode b_S_groupsStand 148 = .ok (.invokevirtual 125, 3) := by decide +kernel
theorem d_S_groupsStand_151 : decode b_S_groupsStand 151 = .ok (.aload_n 0, 1) := by decide +kernel
theorem d_S_groupsStand_152 : decode b_S_groupsStand 152 = .ok (.lload 5, 2) := by decide +kernel
theorem d_S_groupsStand_154 : decode b_S_groupsStand 154 = .ok (.l2i, 1) := by decide +kernel
theorem d_S_groupsStand_155 : decode b_S_groupsStand 155 = .ok (.iconst 2, 1) := by decide +kernel
theorem d_S_groupsStand_156 : decode b_S_groupsStand 156 = .ok (.iload 4, 2) := by decide +kernel
theorem d_S_groupsStand_158 : decode b_S_groupsStand 158 = .ok (.iadd, 1) := by decide +kernel
theorem d_S_groupsStand_159 : decode b_S_groupsStand 159 = .ok (.invokevirtual 125, 3) := by decide +kernel
theorem d_S_groupsStand_162 : decode b_S_groupsStand 162 = .ok (.iinc 1 1, 3) := by decide +kernel
theorem d_S_groupsStand_165 : decode b_S_groupsStand 165 = .ok (.goto (-155), 3) := by decide +kernel
theorem d_S_groupsStand_168 : decode b_S_groupsStand 168 = .ok (.iconst 1, 1) := by decide +kernel
theorem d_S_groupsStand_169 : decode b_S_groupsStand 169 = .ok (.ireturn, 1) := by decide +kernel
theorem d_S_spareAreZero_0 : decode b_S_spareAreZero 0 = .ok (.aload_n 0, 1) := by decide +kernel
theorem d_S_spareAreZero_1 : decode b_S_spareAreZero 1 = .ok (.getfield 15, 3) := by decide +kernel
theorem d_S_spareAreZero_4 : decode b_S_spareAreZero 4 = .ok (.iload_n 1, 1) := by decide +kernel
theorem d_S_spareAreZero_5 : decode b_S_spareAreZero 5 = .ok (.invokevirtual 178, 3) := by decide +kernel
theorem d_S_spareAreZero_8 : decode b_S_spareAreZero 8 = .ok (.lstore_n 3, 1) := by decide +kernel
theorem d_S_spareAreZero_9 : decode b_S_spareAreZero 9 = .ok (.iload_n 2, 1) := by decide +kernel
theorem d_S_spareAreZero_10 : decode b_S_spareAreZero 10 = .ok (.istore 5, 2) := by decide +kernel
theorem d_S_spareAreZero_12 : decode b_S_spareAreZero 12 = .ok (.iload 5, 2) := by decide +kernel
theorem d_S_spareAreZero_14 : decode b_S_spareAreZero 14 = .ok (.bipush 12, 2) := by decide +kernel
theorem d_S_spareAreZero_16 : decode b_S_spareAreZero 16 = .ok (.if_icmp .ge 35, 3) := by decide +kernel
theorem d_S_spareAreZero_19 : decode b_S_spareAreZero 19 = .ok (.aload_n 0, 1) := by decide +kernel
theorem d_S_spareAreZero_20 : decode b_S_spareAreZero 20 = .ok (.getfield 9, 3) := by decide +kernel
theorem d_S_spareAreZero_23 : decode b_S_spareAreZero 23 = .ok (.lload_n 3, 1) := by decide +kernel
theorem d_S_spareAreZero_24 : decode b_S_spareAreZero 24 = .ok (.ldc2_w 181, 3) := by decide +kernel
theorem d_S_spareAreZero_27 : decode b_S_spareAreZero 27 = .ok (.ladd, 1) := by decide +kernel
theorem d_S_spareAreZero_28 : decode b_S_spareAreZero 28 = .ok (.iconst 4, 1) := by decide +kernel
theorem d_S_spareAreZero_29 : decode b_S_spareAreZero 29 = .ok (.iload 5, 2) := by decide +kernel
theorem d_S_spareAreZero_31 : decode b_S_spareAreZero 31 = .ok (.imul, 1) := by decide +kernel
theorem d_S_spareAreZero_32 : decode b_S_spareAreZero 32 = .ok (.i2l, 1) := by decide +kernel
theorem d_S_spareAreZero_33 : decode b_S_spareAreZero 33 = .ok (.ladd, 1) := by decide +kernel
theorem d_S_spareAreZero_34 : decode b_S_spareAreZero 34 = .ok (.iconst 4, 1) := by decide +kernel
theorem d_S_spareAreZero_35 : decode b_S_spareAreZero 35 = .ok (.invokevirtual 88, 3) := by decide +kernel
theorem d_S_spareAreZero_38 : decode b_S_spareAreZero 38 = .ok (.lconst 0, 1) := by decide +kernel
theorem d_S_spareAreZero_39 : decode b_S_spareAreZero 39 = .ok (.lcmp, 1) := by decide +kernel
theorem d_S_spareAreZero_40 : decode b_S_spareAreZero 40 = .ok (.ifCond .eq 5, 3) := by decide +kernel
theorem d_S_spareAreZero_43 : decode b_S_spareAreZero 43 = .ok (.iconst 0, 1) := by decide +kernel
theorem d_S_spareAreZero_44 : decode b_S_spareAreZero 44 = .ok (.ireturn, 1) := by decide +kernel
theorem d_S_spareAreZero_45 : decode b_S_spareAreZero 45 = .ok (.iinc 5 1, 3) := by decide +kernel
theorem d_S_spareAreZero_48 : decode b_S_spareAreZero 48 = .ok (.goto (-36), 3) := by decide +kernel
theorem d_S_spareAreZero_51 : decode b_S_spareAreZero 51 = .ok (.iload_n 2, 1) := by decide +kernel
theorem d_S_spareAreZero_52 : decode b_S_spareAreZero 52 = .ok (.bipush 12, 2) := by decide +kernel
theorem d_S_spareAreZero_54 : decode b_S_spareAreZero 54 = .ok (.if_icmp .gt 21, 3) := by decide +kernel
theorem d_S_spareAreZero_57 : decode b_S_spareAreZero 57 = .ok (.aload_n 0, 1) := by decide +kernel
theorem d_S_spareAreZero_58 : decode b_S_spareAreZero 58 = .ok (.getfield 9, 3) := by decide +kernel
theorem d_S_spareAreZero_61 : decode b_S_spareAreZero 61 = .ok (.lload_n 3, 1) := by decide +kernel
theorem d_S_spareAreZero_62 : decode b_S_spareAreZero 62 = .ok (.ldc2_w 183, 3) := by decide +kernel
theorem d_S_spareAreZero_65 : decode b_S_spareAreZero 65 = .ok (.ladd, 1) := by decide +kernel
theorem d_S_spareAreZero_66 : decode b_S_spareAreZero 66 = .ok (.iconst 4, 1) := by decide +kernel
theorem d_S_spareAreZero_67 : decode b_S_spareAreZero 67 = .ok (.invokevirtual 88, 3) := by decide +kernel
theorem d_S_spareAreZero_70 : decode b_S_spareAreZero 70 = .ok (.lconst 0, 1) := by decide +kernel
theorem d_S_spareAreZero_71 : decode b_S_spareAreZero 71 = .ok (.lcmp, 1) := by decide +kernel
theorem d_S_spareAreZero_72 : decode b_S_spareAreZero 72 = .ok (.ifCond .ne 50, 3) := by decide +kernel
theorem d_S_spareAreZero_75 : decode b_S_spareAreZero 75 = .ok (.iload_n 2, 1) := by decide +kernel
theorem d_S_spareAreZero_76 : decode b_S_spareAreZero 76 = .ok (.sipush 268, 3) := by decide +kernel
theorem d_S_spareAreZero_79 : decode b_S_spareAreZero 79 = .ok (.if_icmp .gt 21, 3) := by decide +kernel
theorem d_S_spareAreZero_82 : decode b_S_spareAreZero 82 = .ok (.aload_n 0, 1) := by decide +kernel
theorem d_S_spareAreZero_83 : decode b_S_spareAreZero 83 = .ok (.getfield 9, 3) := by decide +kernel
theorem d_S_spareAreZero_86 : decode b_S_spareAreZero 86 = .ok (.lload_n 3, 1) := by decide +kernel
theorem d_S_spareAreZero_87 : decode b_S_spareAreZero 87 = .ok (.ldc2_w 185, 3) := by decide +kernel
theorem d_S_spareAreZero_90 : decode b_S_spareAreZero 90 = .ok (.ladd, 1) := by decide +kernel
theorem d_S_spareAreZero_91 : decode b_S_spareAreZero 91 = .ok (.iconst 4, 1) := by decide +kernel
theorem d_S_spareAreZero_92 : decode b_S_spareAreZero 92 = .ok (.invokevirtual 88, 3) := by decide +kernel
theorem d_S_spareAreZero_95 : decode b_S_spareAreZero 95 = .ok (.lconst 0, 1) := by decide +kernel
theorem d_S_spareAreZero_96 : decode b_S_spareAreZero 96 = .ok (.lcmp, 1) := by decide +kernel
theorem d_S_spareAreZero_97 : decode b_S_spareAreZero 97 = .ok (.ifCond .ne 25, 3) := by decide +kernel
theorem d_S_spareAreZero_100 : decode b_S_spareAreZero 100 = .ok (.aload_n 0, 1) := by decide +kernel
theorem d_S_spareAreZero_101 : decode b_S_spareAreZero 101 = .ok (.getfield 9, 3) := by decide +kernel
theorem d_S_spareAreZero_104 : decode b_S_spareAreZero 104 = .ok (.lload_n 3, 1) := by decide +kernel
theorem d_S_spareAreZero_105 : decode b_S_spareAreZero 105 = .ok (.ldc2_w 187, 3) := by decide +kernel
theorem d_S_spareAreZero_108 : decode b_S_spareAreZero 108 = .ok (.ladd, 1) := by decide +kernel
theorem d_S_spareAreZero_109 : decode b_S_spareAreZero 109 = .ok (.iconst 4, 1) := by decide +kernel
theorem d_S_spareAreZero_110 : decode b_S_spareAreZero 110 = .ok (.invokevirtual 88, 3) := by decide +kernel
theorem d_S_spareAreZero_113 : decode b_S_spareAreZero 113 = .ok (.lconst 0, 1) := by decide +kernel
theorem d_S_spareAreZero_114 : decode b_S_spareAreZero 114 = .ok (.lcmp, 1) := by decide +kernel
theorem d_S_spareAreZero_115 : decode b_S_spareAreZero 115 = .ok (.ifCond .ne 7, 3) := by decide +kernel
theorem d_S_spareAreZero_118 : decode b_S_spareAreZero 118 = .ok (.iconst 1, 1) := by decide +kernel
theorem d_S_spareAreZero_119 : decode b_S_spareAreZero 119 = .ok (.goto 4, 3) := by decide +kernel
theorem d_S_spareAreZero_122 : decode b_S_spareAreZero 122 = .ok (.iconst 0, 1) := by decide +kernel
theorem d_S_spareAreZero_123 : decode b_S_spareAreZero 123 = .ok (.ireturn, 1) := by decide +kernel
theorem d_S_take_0 : decode b_S_take 0 = .ok (.lload_n 1, 1) := by decide +kernel
theorem d_S_take_1 : decode b_S_take 1 = .ok (.lconst 1, 1) := by decide +kernel
theorem d_S_take_2 : decode b_S_take 2 = .ok (.lcmp, 1) := by decide +kernel
theorem d_S_take_3 : decode b_S_take 3 = .ok (.ifCond .lt 27, 3) := by decide +kernel
theorem d_S_take_6 : decode b_S_take 6 = .ok (.lload_n 1, 1) := by decide +kernel
theorem d_S_take_7 : decode b_S_take 7 = .ok (.aload_n 0, 1) := by decide +kernel
theorem d_S_take_8 : decode b_S_take 8 = .ok (.getfield 9, 3) := by decide +kernel
theorem d_S_take_11 : decode b_S_take 11 = .ok (.invokevirtual 72, 3) := by decide +kernel
theorem d_S_take_14 : decode b_S_take 14 = .ok (.i2l, 1) := by decide +kernel
theorem d_S_take_15 : decode b_S_take 15 = .ok (.lcmp, 1) := by decide +kernel
theorem d_S_take_16 : decode b_S_take 16 = .ok (.ifCond .ge 14, 3) := by decide +kernel
theorem d_S_take_19 : decode b_S_take 19 = .ok (.lload_n 1, 1) := by decide +kernel
theorem d_S_take_20 : decode b_S_take 20 = .ok (.aload_n 0, 1) := by decide +kernel
theorem d_S_take_21 : decode b_S_take 21 = .ok (.getfield 23, 3) := by decide +kernel
theorem d_S_take_24 : decode b_S_take 24 = .ok (.arraylength, 1) := by decide +kernel
theorem d_S_take_25 : decode b_S_take 25 = .ok (.i2l, 1) := by decide +kernel
theorem d_S_take_26 : decode b_S_take 26 = .ok (.lcmp, 1) := by decide +kernel
theorem d_S_take_27 : decode b_S_take 27 = .ok (.ifCond .lt 5, 3) := by decide +kernel
theorem d_S_take_30 : decode b_S_take 30 = .ok (.iconst 0, 1) := by decide +kernel
theorem d_S_take_31 : decode b_S_take 31 = .ok (.ireturn, 1) := by decide +kernel
theorem d_S_take_32 : decode b_S_take 32 = .ok (.lload_n 1, 1) := by decide +kernel
theorem d_S_take_33 : decode b_S_take 33 = .ok (.l2i, 1) := by decide +kernel
theorem d_S_take_34 : decode b_S_take 34 = .ok (.istore_n 3, 1) := by decide +kernel
theorem d_S_take_35 : decode b_S_take 35 = .ok (.aload_n 0, 1) := by decide +kernel
theorem d_S_take_36 : decode b_S_take 36 = .ok (.getfield 23, 3) := by decide +kernel
theorem d_S_take_39 : decode b_S_take 39 = .ok (.iload_n 3, 1) := by decide +kernel
theorem d_S_take_40 : decode b_S_take 40 = .ok (.iaload, 1) := by decide +kernel
theorem d_S_take_41 : decode b_S_take 41 = .ok (.ifCond .eq 5, 3) := by decide +kernel
theorem d_S_take_44 : decode b_S_take 44 = .ok (.iconst 0, 1) := by decide +kernel
theorem d_S_take_45 : decode b_S_take 45 = .ok (.ireturn, 1) := by decide +kernel
theorem d_S_take_46 : decode b_S_take 46 = .ok (.aload_n 0, 1) := by decide +kernel
theorem d_S_take_47 : decode b_S_take 47 = .ok (.getfield 23, 3) := by decide +kernel
theorem d_S_take_50 : decode b_S_take 50 = .ok (.iload_n 3, 1) := by decide +kernel
theorem d_S_take_51 : decode b_S_take 51 = .ok (.iconst 1, 1) := by decide +kernel
theorem d_S_take_52 : decode b_S_take 52 = .ok (.iastore, 1) := by decide +kernel
theorem d_S_take_53 : decode b_S_take 53 = .ok (.iconst 1, 1) := by decide +kernel
theorem d_S_take_54 : decode b_S_take 54 = .ok (.ireturn, 1) := by decide +kernel
theorem d_S_takeWhole_0 : decode b_S_takeWhole 0 = .ok (.aload_n 0, 1) := by decide +kernel
theorem d_S_takeWhole_1 : decode b_S_takeWhole 1 = .ok (.getfield 15, 3) := by decide +kernel
theorem d_S_takeWhole_4 : decode b_S_takeWhole 4 = .ok (.iload_n 1, 1) := by decide +kernel
theorem d_S_takeWhole_5 : decode b_S_takeWhole 5 = .ok (.invokevirtual 156, 3) := by decide +kernel
theorem d_S_takeWhole_8 : decode b_S_takeWhole 8 = .ok (.lstore_n 2, 1) := by decide +kernel
theorem d_S_takeWhole_9 : decode b_S_takeWhole 9 = .ok (.lload_n 2, 1) := by decide +kernel
theorem d_S_takeWhole_10 : decode b_S_takeWhole 10 = .ok (.ldc2_w 103, 3) := by decide +kernel
theorem d_S_takeWhole_13 : decode b_S_takeWhole 13 = .ok (.aload_n 0, 1) := by decide +kernel
theorem d_S_takeWhole_14 : decode b_S_takeWhole 14 = .ok (.getfield 9, 3) := by decide +kernel
theorem d_S_takeWhole_17 : decode b_S_takeWhole 17 = .ok (.invokevirtual 72, 3) := by decide +kernel
theorem d_S_takeWhole_20 : decode b_S_takeWhole 20 = .ok (.i2l, 1) := by decide +kernel
theorem d_S_takeWhole_21 : decode b_S_takeWhole 21 = .ok (.lmul, 1) := by decide +kernel
theorem d_S_takeWhole_22 : decode b_S_takeWhole 22 = .ok (.lcmp, 1) := by decide +kernel
theorem d_S_takeWhole_23 : decode b_S_takeWhole 23 = .ok (.ifCond .le 5, 3) := by decide +kernel
theorem d_S_takeWhole_26 : decode b_S_takeWhole 26 = .ok (.iconst 0, 1) := by decide +kernel
theorem d_S_takeWhole_27 : decode b_S_takeWhole 27 = .ok (.ireturn, 1) := by decide +kernel
theorem d_S_takeWhole_28 : decode b_S_takeWhole 28 = .ok (.aload_n 0, 1) := by decide +kernel
theorem d_S_takeWhole_29 : decode b_S_takeWhole 29 = .ok (.getfield 15, 3) := by decide +kernel
theorem d_S_takeWhole_32 : decode b_S_takeWhole 32 = .ok (.lload_n 2, 1) := by decide +kernel
theorem d_S_takeWhole_33 : decode b_S_takeWhole 33 = .ok (.invokevirtual 160, 3) := by decide +kernel
theorem d_S_takeWhole_36 : decode b_S_takeWhole 36 = .ok (.istore 4, 2) := by decide +kernel
theorem d_S_takeWhole_38 : decode b_S_takeWhole 38 = .ok (.iload 4, 2) := by decide +kernel
theorem d_S_takeWhole_40 : decode b_S_takeWhole 40 = .ok (.sipush 268, 3) := by decide +kernel
theorem d_S_takeWhole_43 : decode b_S_takeWhole 43 = .ok (.if_icmp .le 22, 3) := by decide +kernel
theorem d_S_takeWhole_46 : decode b_S_takeWhole 46 = .ok (.iload 4, 2) := by decide +kernel
theorem d_S_takeWhole_48 : decode b_S_takeWhole 48 = .ok (.sipush 268, 3) := by decide +kernel
theorem d_S_takeWhole_51 : decode b_S_takeWhole 51 = .ok (.isub, 1) := by decide +kernel
theorem d_S_takeWhole_52 : decode b_S_takeWhole 52 = .ok (.sipush 256, 3) := by decide +kernel
theorem d_S_takeWhole_55 : decode b_S_takeWhole 55 = .ok (.iadd, 1) := by decide +kernel
theorem d_S_takeWhole_56 : decode b_S_takeWhole 56 = .ok (.iconst 1, 1) := by decide +kernel
theorem d_S_takeWhole_57 : decode b_S_takeWhole 57 = .ok (.isub, 1) := by decide +kernel
theorem d_S_takeWhole_58 : decode b_S_takeWhole 58 = .ok (.sipush 256, 3) := by decide +kernel
theorem d_S_takeWhole_61 : decode b_S_takeWhole 61 = .ok (.idiv, 1) := by decide +kernel
theorem d_S_takeWhole_62 : decode b_S_takeWhole 62 = .ok (.goto 4, 3) := by decide +kernel
theorem d_S_takeWhole_65 : decode b_S_takeWhole 65 = .ok (.iconst 0, 1) := by decide +kernel
theorem d_S_takeWhole_66 : decode b_S_takeWhole 66 = .ok (.istore 5, 2) := by decide +kernel
theorem d_S_takeWhole_68 : decode b_S_takeWhole 68 = .ok (.iload 4, 2) := by decide +kernel
theorem d_S_takeWhole_70 : decode b_S_takeWhole 70 = .ok (.bipush 12, 2) := by decide +kernel
theorem d_S_takeWhole_72 : decode b_S_takeWhole 72 = .ok (.if_icmp .le 7, 3) := by decide +kernel
theorem d_S_takeWhole_75 : decode b_S_takeWhole 75 = .ok (.iconst 1, 1) := by decide +kernel
theorem d_S_takeWhole_76 : decode b_S_takeWhole 76 = .ok (.goto 4, 3) := by decide +kernel
theorem d_S_takeWhole_79 : decode b_S_takeWhole 79 = .ok (.iconst 0, 1) := by decide +kernel
theorem d_S_takeWhole_80 : decode b_S_takeWhole 80 = .ok (.iload 4, 2) := by decide +kernel
theorem d_S_takeWhole_82 : decode b_S_takeWhole 82 = .ok (.sipush 268, 3) := by decide +kernel
theorem d_S_takeWhole_85 : decode b_S_takeWhole 85 = .ok (.if_icmp .le 7, 3) := by decide +kernel
theorem d_S_takeWhole_88 : decode b_S_takeWhole 88 = .ok (.iconst 1, 1) := by decide +kernel
theorem d_S_takeWhole_89 : decode b_S_takeWhole 89 = .ok (.goto 4, 3) := by decide +kernel
theorem d_S_takeWhole_92 : decode b_S_takeWhole 92 = .ok (.iconst 0, 1) := by decide +kernel
theorem d_S_takeWhole_93 : decode b_S_takeWhole 93 = .ok (.iadd, 1) := by decide +kernel
theorem d_S_takeWhole_94 : decode b_S_takeWhole 94 = .ok (.iload 5, 2) := by decide +kernel
theorem d_S_takeWhole_96 : decode b_S_takeWhole 96 = .ok (.iadd, 1) := by decide +kernel
theorem d_S_takeWhole_97 : decode b_S_takeWhole 97 = .ok (.istore 6, 2) := by decide +kernel
theorem d_S_takeWhole_99 : decode b_S_takeWhole 99 = .ok (.aload_n 0, 1) := by decide +kernel
theorem d_S_takeWhole_100 : decode b_S_takeWhole 100 = .ok (.getfield 15, 3) := by decide +kernel
theorem d_S_takeWhole_103 : decode b_S_takeWhole 103 = .ok (.iload_n 1, 1) := by decide +kernel
theorem d_S_takeWhole_104 : decode b_S_takeWhole 104 = .ok (.bipush 28, 2) := by decide +kernel
theorem d_S_takeWhole_106 : decode b_S_takeWhole 106 = .ok (.iconst 4, 1) := by decide +kernel
theorem d_S_takeWhole_107 : decode b_S_takeWhole 107 = .ok (.invokevirtual 164, 3) := by decide +kernel
theorem d_S_takeWhole_110 : decode b_S_takeWhole 110 = .ok (.iconst 2, 1) := by decide +kernel
theorem d_S_takeWhole_111 : decode b_S_takeWhole 111 = .ok (.iload 4, 2) := by decide +kernel
theorem d_S_takeWhole_113 : decode b_S_takeWhole 113 = .ok (.iload 6, 2) := by decide +kernel
theorem d_S_takeWhole_115 : decode b_S_takeWhole 115 = .ok (.iadd, 1) := by decide +kernel
theorem d_S_takeWhole_116 : decode b_S_takeWhole 116 = .ok (.imul, 1) := by decide +kernel
theorem d_S_takeWhole_117 : decode b_S_takeWhole 117 = .ok (.i2l, 1) := by decide +kernel
theorem d_S_takeWhole_118 : decode b_S_takeWhole 118 = .ok (.lcmp, 1) := by decide +kernel
theorem d_S_takeWhole_119 : decode b_S_takeWhole 119 = .ok (.ifCond .ne 13, 3) := by decide +kernel
theorem d_S_takeWhole_122 : decode b_S_takeWhole 122 = .ok (.aload_n 0, 1) := by decide +kernel
theorem d_S_takeWhole_123 : decode b_S_takeWhole 123 = .ok (.iload_n 1, 1) := by decide +kernel
theorem d_S_takeWhole_124 : decode b_S_takeWhole 124 = .ok (.iload 4, 2) := by decide +kernel
theorem d_S_takeWhole_126 : decode b_S_takeWhole 126 = .ok (.invokevirtual 167, 3) := by decide +kernel
theorem d_S_takeWhole_129 : decode b_S_takeWhole 129 = .ok (.ifCond .ne 5, 3) := by decide +kernel
theorem d_S_takeWhole_132 : decode b_S_takeWhole 132 = .ok (.iconst 0, 1) := by decide +kernel
theorem d_S_takeWhole_133 : decode b_S_takeWhole 133 = .ok (.ireturn, 1) := by decide +kernel
theorem d_S_takeWhole_134 : decode b_S_takeWhole 134 = .ok (.iload 4, 2) := by decide +kernel
theorem d_S_takeWhole_136 : decode b_S_takeWhole 136 = .ok (.bipush 12, 2) := by decide +kernel
theorem d_S_takeWhole_138 : decode b_S_takeWhole 138 = .ok (.if_icmp .le 23, 3) := by decide +kernel
theorem d_S_takeWhole_141 : decode b_S_takeWhole 141 = .ok (.aload_n 0, 1) := by decide +kernel
theorem d_S_takeWhole_142 : decode b_S_takeWhole 142 = .ok (.aload_n 0, 1) := by decide +kernel
theorem d_S_takeWhole_143 : decode b_S_takeWhole 143 = .ok (.getfield 15, 3) := by decide +kernel
theorem d_S_takeWhole_146 : decode b_S_takeWhole 146 = .ok (.iload_n 1, 1) := by decide +kernel
theorem d_S_takeWhole_147 : decode b_S_takeWhole 147 = .ok (.bipush 88, 2) := by decide +kernel
theorem d_S_takeWhole_149 : decode b_S_takeWhole 149 = .ok (.iconst 4, 1) := by decide +kernel
theorem d_S_takeWhole_150 : decode b_S_takeWhole 150 = .ok (.invokevirtual 164, 3) := by decide +kernel
theorem d_S_takeWhole_153 : decode b_S_takeWhole 153 = .ok (.invokevirtual 170, 3) := by decide +kernel
theorem d_S_takeWhole_156 : decode b_S_takeWhole 156 = .ok (.ifCond .ne 5, 3) := by decide +kernel
theorem d_S_takeWhole_159 : decode b_S_takeWhole 159 = .ok (.iconst 0, 1) := by decide +kernel
theorem d_S_takeWhole_160 : decode b_S_takeWhole 160 = .ok (.ireturn, 1) := by decide +kernel
theorem d_S_takeWhole_161 : decode b_S_takeWhole 161 = .ok (.aload_n 0, 1) := by decide +kernel
theorem d_S_takeWhole_162 : decode b_S_takeWhole 162 = .ok (.getfield 15, 3) := by decide +kernel
theorem d_S_takeWhole_165 : decode b_S_takeWhole 165 = .ok (.iload_n 1, 1) := by decide +kernel
theorem d_S_takeWhole_166 : decode b_S_takeWhole 166 = .ok (.bipush 92, 2) := by decide +kernel
theorem d_S_takeWhole_168 : decode b_S_takeWhole 168 = .ok (.iconst 4, 1) := by decide +kernel
theorem d_S_takeWhole_169 : decode b_S_takeWhole 169 = .ok (.invokevirtual 164, 3) := by decide +kernel
theorem d_S_takeWhole_172 : decode b_S_takeWhole 172 = .ok (.lstore 7, 2) := by decide +kernel
theorem d_S_takeWhole_174 : decode b_S_takeWhole 174 = .ok (.iload 4, 2) := by decide +kernel
theorem d_S_takeWhole_176 : decode b_S_takeWhole 176 = .ok (.sipush 268, 3) := by decide +kernel
theorem d_S_takeWhole_179 : decode b_S_takeWhole 179 = .ok (.if_icmp .le 14, 3) := by decide +kernel
theorem d_S_takeWhole_182 : decode b_S_takeWhole 182 = .ok (.aload_n 0, 1) := by decide +kernel
theorem d_S_takeWhole_183 : decode b_S_takeWhole 183 = .ok (.lload 7, 2) := by decide +kernel
theorem d_S_takeWhole_185 : decode b_S_takeWhole 185 = .ok (.invokevirtual 170, 3) := by decide +kernel
theorem d_S_takeWhole_188 : decode b_S_takeWhole 188 = .ok (.ifCond .ne 5, 3) := by decide +kernel
theorem d_S_takeWhole_191 : decode b_S_takeWhole 191 = .ok (.iconst 0, 1) := by decide +kernel
theorem d_S_takeWhole_192 : decode b_S_takeWhole 192 = .ok (.ireturn, 1) := by decide +kernel
theorem d_S_takeWhole_193 : decode b_S_takeWhole 193 = .ok (.iconst 0, 1) := by decide +kernel
theorem d_S_takeWhole_194 : decode b_S_takeWhole 194 = .ok (.istore 9, 2) := by decide +kernel
theorem d_S_takeWhole_196 : decode b_S_takeWhole 196 = .ok (.iload 9, 2) := by decide +kernel
theorem d_S_takeWhole_198 : decode b_S_takeWhole 198 = .ok (.iload 5, 2) := by decide +kernel
theorem d_S_takeWhole_200 : decode b_S_takeWhole 200 = .ok (.if_icmp .ge 38, 3) := by decide +kernel
theorem d_S_takeWhole_203 : decode b_S_takeWhole 203 = .ok (.aload_n 0, 1) := by decide +kernel
theorem d_S_takeWhole_204 : decode b_S_takeWhole 204 = .ok (.aload_n 0, 1) := by decide +kernel
theorem d_S_takeWhole_205 : decode b_S_takeWhole 205 = .ok (.getfield 9, 3) := by decide +kernel
theorem d_S_takeWhole_208 : decode b_S_takeWhole 208 = .ok (.ldc2_w 103, 3) := by decide +kernel
theorem d_S_takeWhole_211 : decode b_S_takeWhole 211 = .ok (.lload 7, 2) := by decide +kernel
theorem d_S_takeWhole_213 : decode b_S_takeWhole 213 = .ok (.lmul, 1) := by decide +kernel
theorem d_S_takeWhole_214 : decode b_S_takeWhole 214 = .ok (.iconst 4, 1) := by decide +kernel
theorem d_S_takeWhole_215 : decode b_S_takeWhole 215 = .ok (.iload 9, 2) := by decide +kernel
theorem d_S_takeWhole_217 : decode b_S_takeWhole 217 = .ok (.imul, 1) := by decide +kernel
theorem d_S_takeWhole_218 : decode b_S_takeWhole 218 = .ok (.i2l, 1) := by decide +kernel
theorem d_S_takeWhole_219 : decode b_S_takeWhole 219 = .ok (.ladd, 1) := by decide +kernel
theorem d_S_takeWhole_220 : decode b_S_takeWhole 220 = .ok (.iconst 4, 1) := by decide +kernel
theorem d_S_takeWhole_221 : decode b_S_takeWhole 221 = .ok (.invokevirtual 88, 3) := by decide +kernel
theorem d_S_takeWhole_224 : decode b_S_takeWhole 224 = .ok (.invokevirtual 170, 3) := by decide +kernel
theorem d_S_takeWhole_227 : decode b_S_takeWhole 227 = .ok (.ifCond .ne 5, 3) := by decide +kernel
theorem d_S_takeWhole_230 : decode b_S_takeWhole 230 = .ok (.iconst 0, 1) := by decide +kernel
theorem d_S_takeWhole_231 : decode b_S_takeWhole 231 = .ok (.ireturn, 1) := by decide +kernel
theorem d_S_takeWhole_232 : decode b_S_takeWhole 232 = .ok (.iinc 9 1, 3) := by decide +kernel
theorem d_S_takeWhole_235 : decode b_S_takeWhole 235 = .ok (.goto (-39), 3) := by decide +kernel
theorem d_S_takeWhole_238 : decode b_S_takeWhole 238 = .ok (.iconst 0, 1) := by decide +kernel
theorem d_S_takeWhole_239 : decode b_S_takeWhole 239 = .ok (.istore 9, 2) := by decide +kernel
theorem d_S_takeWhole_241 : decode b_S_takeWhole 241 = .ok (.iload 9, 2) := by decide +kernel
theorem d_S_takeWhole_243 : decode b_S_takeWhole 243 = .ok (.iload 4, 2) := by decide +kernel
theorem d_S_takeWhole_245 : decode b_S_takeWhole 245 = .ok (.if_icmp .ge 28, 3) := by decide +kernel
theorem d_S_takeWhole_248 : decode b_S_takeWhole 248 = .ok (.aload_n 0, 1) := by decide +kernel
theorem d_S_takeWhole_249 : decode b_S_takeWhole 249 = .ok (.aload_n 0, 1) := by decide +kernel
theorem d_S_takeWhole_250 : decode b_S_takeWhole 250 = .ok (.getfield 15, 3) := by decide +kernel
theorem d_S_takeWhole_253 : decode b_S_takeWhole 253 = .ok (.iload_n 1, 1) := by decide +kernel
theorem d_S_takeWhole_254 : decode b_S_takeWhole 254 = .ok (.iload 9, 2) := by decide +kernel
theorem d_S_takeWhole_256 : decode b_S_takeWhole 256 = .ok (.invokevirtual 174, 3) := by decide +kernel
theorem d_S_takeWhole_259 : decode b_S_takeWhole 259 = .ok (.invokevirtual 170, 3) := by decide +kernel
theorem d_S_takeWhole_262 : decode b_S_takeWhole 262 = .ok (.ifCond .ne 5, 3) := by decide +kernel
theorem d_S_takeWhole_265 : decode b_S_takeWhole 265 = .ok (.iconst 0, 1) := by decide +kernel
theorem d_S_takeWhole_266 : decode b_S_takeWhole 266 = .ok (.ireturn, 1) := by decide +kernel
theorem d_S_takeWhole_267 : decode b_S_takeWhole 267 = .ok (.iinc 9 1, 3) := by decide +kernel
theorem d_S_takeWhole_270 : decode b_S_takeWhole 270 = .ok (.goto (-29), 3) := by decide +kernel
theorem d_S_takeWhole_273 : decode b_S_takeWhole 273 = .ok (.iconst 1, 1) := by decide +kernel
theorem d_S_takeWhole_274 : decode b_S_takeWhole 274 = .ok (.ireturn, 1) := by decide +kernel
theorem d_S_standInLine_0 : decode b_S_standInLine 0 = .ok (.iload_n 1, 1) := by decide +kernel
theorem d_S_standInLine_1 : decode b_S_standInLine 1 = .ok (.iconst 1, 1) := by decide +kernel
theorem d_S_standInLine_2 : decode b_S_standInLine 2 = .ok (.if_icmp .lt 31, 3) := by decide +kernel
theorem d_S_standInLine_5 : decode b_S_standInLine 5 = .ok (.iload_n 1, 1) := by decide +kernel
theorem d_S_standInLine_6 : decode b_S_standInLine 6 = .ok (.aload_n 0, 1) := by decide +kernel
theorem d_S_standInLine_7 : decode b_S_standInLine 7 = .ok (.getfield 27, 3) := by decide +kernel
theorem d_S_standInLine_10 : decode b_S_standInLine 10 = .ok (.arraylength, 1) := by decide +kernel
theorem d_S_standInLine_11 : decode b_S_standInLine 11 = .ok (.if_icmp .ge 22, 3) := by decide +kernel
theorem d_S_standInLine_14 : decode b_S_standInLine 14 = .ok (.aload_n 0, 1) := by decide +kernel
theorem d_S_standInLine_15 : decode b_S_standInLine 15 = .ok (.getfield 134, 3) := by decide +kernel
theorem d_S_standInLine_18 : decode b_S_standInLine 18 = .ok (.ifCond .lt 15, 3) := by decide +kernel
theorem d_S_standInLine_21 : decode b_S_standInLine 21 = .ok (.aload_n 0, 1) := by decide +kernel
theorem d_S_standInLine_22 : decode b_S_standInLine 22 = .ok (.getfield 134, 3) := by decide +kernel
theorem d_S_standInLine_25 : decode b_S_standInLine 25 = .ok (.aload_n 0, 1) := by decide +kernel
theorem d_S_standInLine_26 : decode b_S_standInLine 26 = .ok (.getfield 30, 3) := by decide +kernel
theorem d_S_standInLine_29 : decode b_S_standInLine 29 = .ok (.arraylength, 1) := by decide +kernel
theorem d_S_standInLine_30 : decode b_S_standInLine 30 = .ok (.if_icmp .lt 4, 3) := by decide +kernel
theorem d_S_standInLine_33 : decode b_S_standInLine 33 = .ok (.return_, 1) := by decide +kernel
theorem d_S_standInLine_34 : decode b_S_standInLine 34 = .ok (.aload_n 0, 1) := by decide +kernel
theorem d_S_standInLine_35 : decode b_S_standInLine 35 = .ok (.getfield 27, 3) := by decide +kernel
theorem d_S_standInLine_38 : decode b_S_standInLine 38 = .ok (.iload_n 1, 1) := by decide +kernel
theorem d_S_standInLine_39 : decode b_S_standInLine 39 = .ok (.iconst 1, 1) := by decide +kernel
theorem d_S_standInLine_40 : decode b_S_standInLine 40 = .ok (.iastore, 1) := by decide +kernel
theorem d_S_standInLine_41 : decode b_S_standInLine 41 = .ok (.aload_n 0, 1) := by decide +kernel
theorem d_S_standInLine_42 : decode b_S_standInLine 42 = .ok (.getfield 30, 3) := by decide +kernel
theorem d_S_standInLine_45 : decode b_S_standInLine 45 = .ok (.aload_n 0, 1) := by decide +kernel
theorem d_S_standInLine_46 : decode b_S_standInLine 46 = .ok (.getfield 134, 3) := by decide +kernel
theorem d_S_standInLine_49 : decode b_S_standInLine 49 = .ok (.iload_n 1, 1) := by decide +kernel
theorem d_S_standInLine_50 : decode b_S_standInLine 50 = .ok (.iastore, 1) := by decide +kernel
theorem d_S_standInLine_51 : decode b_S_standInLine 51 = .ok (.aload_n 0, 1) := by decide +kernel
theorem d_S_standInLine_52 : decode b_S_standInLine 52 = .ok (.getfield 33, 3) := by decide +kernel
theorem d_S_standInLine_55 : decode b_S_standInLine 55 = .ok (.aload_n 0, 1) := by decide +kernel
theorem d_S_standInLine_56 : decode b_S_standInLine 56 = .ok (.getfield 134, 3) := by decide +kernel
theorem d_S_standInLine_59 : decode b_S_standInLine 59 = .ok (.iload_n 2, 1) := by decide +kernel
theorem d_S_standInLine_60 : decode b_S_standInLine 60 = .ok (.iastore, 1) := by decide +kernel
theorem d_S_standInLine_61 : decode b_S_standInLine 61 = .ok (.aload_n 0, 1) := by decide +kernel
theorem d_S_standInLine_62 : decode b_S_standInLine 62 = .ok (.getfield 36, 3) := by decide +kernel
theorem d_S_standInLine_65 : decode b_S_standInLine 65 = .ok (.aload_n 0, 1) := by decide +kernel
theorem d_S_standInLine_66 : decode b_S_standInLine 66 = .ok (.getfield 134, 3) := by decide +kernel
theorem d_S_standInLine_69 : decode b_S_standInLine 69 = .ok (.iconst 0, 1) := by decide +kernel
theorem d_S_standInLine_70 : decode b_S_standInLine 70 = .ok (.iastore, 1) := by decide +kernel
theorem d_S_standInLine_71 : decode b_S_standInLine 71 = .ok (.aload_n 0, 1) := by decide +kernel
theorem d_S_standInLine_72 : decode b_S_standInLine 72 = .ok (.dup, 1) := by decide +kernel
theorem d_S_standInLine_73 : decode b_S_standInLine 73 = .ok (.getfield 134, 3) := by decide +kernel
theorem d_S_standInLine_76 : decode b_S_standInLine 76 = .ok (.iconst 1, 1) := by decide +kernel
theorem d_S_standInLine_77 : decode b_S_standInLine 77 = .ok (.iadd, 1) := by decide +kernel
theorem d_S_standInLine_78 : decode b_S_standInLine 78 = .ok (.putfield 134, 3) := by decide +kernel
theorem d_S_standInLine_81 : decode b_S_standInLine 81 = .ok (.return_, 1) := by decide +kernel
theorem d_S_entryStands_0 : decode b_S_entryStands 0 = .ok (.aload_n 0, 1) := by decide +kernel
theorem d_S_entryStands_1 : decode b_S_entryStands 1 = .ok (.getfield 19, 3) := by decide +kernel
theorem d_S_entryStands_4 : decode b_S_entryStands 4 = .ok (.invokevirtual 214, 3) := by decide +kernel
theorem d_S_entryStands_7 : decode b_S_entryStands 7 = .ok (.ifCond .eq 13, 3) := by decide +kernel
theorem d_S_entryStands_10 : decode b_S_entryStands 10 = .ok (.aload_n 0, 1) := by decide +kernel
theorem d_S_entryStands_11 : decode b_S_entryStands 11 = .ok (.getfield 19, 3) := by decide +kernel
theorem d_S_entryStands_14 : decode b_S_entryStands 14 = .ok (.invokevirtual 217, 3) := by decide +kernel
theorem d_S_entryStands_17 : decode b_S_entryStands 17 = .ok (.ifCond .ne 5, 3) := by decide +kernel
theorem d_S_entryStands_20 : decode b_S_entryStands 20 = .ok (.iconst 0, 1) := by decide +kernel
theorem d_S_entryStands_21 : decode b_S_entryStands 21 = .ok (.ireturn, 1) := by decide +kernel
theorem d_S_entryStands_22 : decode b_S_entryStands 22 = .ok (.aload_n 0, 1) := by decide +kernel
theorem d_S_entryStands_23 : decode b_S_entryStands 23 = .ok (.getfield 19, 3) := by decide +kernel
theorem d_S_entryStands_26 : decode b_S_entryStands 26 = .ok (.invokevirtual 220, 3) := by decide +kernel
theorem d_S_entryStands_29 : decode b_S_entryStands 29 = .ok (.istore_n 3, 1) := by decide +kernel
theorem d_S_entryStands_30 : decode b_S_entryStands 30 = .ok (.aload_n 0, 1) := by decide +kernel
theorem d_S_entryStands_31 : decode b_S_entryStands 31 = .ok (.getfield 19, 3) := by decide +kernel
theorem d_S_entryStands_34 : decode b_S_entryStands 34 = .ok (.invokevirtual 211, 3) := by decide +kernel
theorem d_S_entryStands_37 : decode b_S_entryStands 37 = .ok (.ifCond .ne 35, 3) := by decide +kernel
theorem d_S_entryStands_40 : decode b_S_entryStands 40 = .ok (.aload_n 0, 1) := by decide +kernel
theorem d_S_entryStands_41 : decode b_S_entryStands 41 = .ok (.getfield 19, 3) := by decide +kernel
theorem d_S_entryStands_44 : decode b_S_entryStands 44 = .ok (.invokevirtual 223, 3) := by decide +kernel
theorem d_S_entryStands_47 : decode b_S_entryStands 47 = .ok (.ifCond .eq 23, 3) := by decide +kernel
theorem d_S_entryStands_50 : decode b_S_entryStands 50 = .ok (.iload_n 3, 1) := by decide +kernel
theorem d_S_entryStands_51 : decode b_S_entryStands 51 = .ok (.iload_n 1, 1) := by decide +kernel
theorem d_S_entryStands_52 : decode b_S_entryStands 52 = .ok (.if_icmp .ne 18, 3) := by decide +kernel
theorem d_S_entryStands_55 : decode b_S_entryStands 55 = .ok (.aload_n 0, 1) := by decide +kernel
theorem d_S_entryStands_56 : decode b_S_entryStands 56 = .ok (.getfield 19, 3) := by decide +kernel
theorem d_S_entryStands_59 : decode b_S_entryStands 59 = .ok (.invokevirtual 226, 3) := by decide +kernel
theorem d_S_entryStands_62 : decode b_S_entryStands 62 = .ok (.iconst 2, 1) := by decide +kernel
theorem d_S_entryStands_63 : decode b_S_entryStands 63 = .ok (.if_icmp .ne 7, 3) := by decide +kernel
theorem d_S_entryStands_66 : decode b_S_entryStands 66 = .ok (.iconst 1, 1) := by decide +kernel
theorem d_S_entryStands_67 : decode b_S_entryStands 67 = .ok (.goto 4, 3) := by decide +kernel
theorem d_S_entryStands_70 : decode b_S_entryStands 70 = .ok (.iconst 0, 1) := by decide +kernel
theorem d_S_entryStands_71 : decode b_S_entryStands 71 = .ok (.ireturn, 1) := by decide +kernel
theorem d_S_entryStands_72 : decode b_S_entryStands 72 = .ok (.aload_n 0, 1) := by decide +kernel
theorem d_S_entryStands_73 : decode b_S_entryStands 73 = .ok (.getfield 19, 3) := by decide +kernel
theorem d_S_entryStands_76 : decode b_S_entryStands 76 = .ok (.invokevirtual 211, 3) := by decide +kernel
theorem d_S_entryStands_79 : decode b_S_entryStands 79 = .ok (.iconst 1, 1) := by decide +kernel
theorem d_S_entryStands_80 : decode b_S_entryStands 80 = .ok (.if_icmp .ne 35, 3) := by decide +kernel
theorem d_S_entryStands_83 : decode b_S_entryStands 83 = .ok (.aload_n 0, 1) := by decide +kernel
theorem d_S_entryStands_84 : decode b_S_entryStands 84 = .ok (.getfield 19, 3) := by decide +kernel
theorem d_S_entryStands_87 : decode b_S_entryStands 87 = .ok (.invokevirtual 229, 3) := by decide +kernel
theorem d_S_entryStands_90 : decode b_S_entryStands 90 = .ok (.ifCond .eq 23, 3) := by decide +kernel
theorem d_S_entryStands_93 : decode b_S_entryStands 93 = .ok (.iload_n 3, 1) := by decide +kernel
theorem d_S_entryStands_94 : decode b_S_entryStands 94 = .ok (.iload_n 2, 1) := by decide +kernel
theorem d_S_entryStands_95 : decode b_S_entryStands 95 = .ok (.if_icmp .ne 18, 3) := by decide +kernel
theorem d_S_entryStands_98 : decode b_S_entryStands 98 = .ok (.aload_n 0, 1) := by decide +kernel
theorem d_S_entryStands_99 : decode b_S_entryStands 99 = .ok (.getfield 19, 3) := by decide +kernel
theorem d_S_entryStands_102 : decode b_S_entryStands 102 = .ok (.invokevirtual 226, 3) := by decide +kernel
theorem d_S_entryStands_105 : decode b_S_entryStands 105 = .ok (.iconst 2, 1) := by decide +kernel
theorem d_S_entryStands_106 : decode b_S_entryStands 106 = .ok (.if_icmp .ne 7, 3) := by decide +kernel
theorem d_S_entryStands_109 : decode b_S_entryStands 109 = .ok (.iconst 1, 1) := by decide +kernel
theorem d_S_entryStands_110 : decode b_S_entryStands 110 = .ok (.goto 4, 3) := by decide +kernel
theorem d_S_entryStands_113 : decode b_S_entryStands 113 = .ok (.iconst 0, 1) := by decide +kernel
theorem d_S_entryStands_114 : decode b_S_entryStands 114 = .ok (.ireturn, 1) := by decide +kernel
theorem d_S_entryStands_115 : decode b_S_entryStands 115 = .ok (.aload_n 0, 1) := by decide +kernel
theorem d_S_entryStands_116 : decode b_S_entryStands 116 = .ok (.getfield 19, 3) := by decide +kernel
theorem d_S_entryStands_119 : decode b_S_entryStands 119 = .ok (.invokevirtual 223, 3) := by decide +kernel
theorem d_S_entryStands_122 : decode b_S_entryStands 122 = .ok (.ifCond .ne 24, 3) := by decide +kernel
theorem d_S_entryStands_125 : decode b_S_entryStands 125 = .ok (.aload_n 0, 1) := by decide +kernel
theorem d_S_entryStands_126 : decode b_S_entryStands 126 = .ok (.getfield 19, 3) := by decide +kernel
theorem d_S_entryStands_129 : decode b_S_entryStands 129 = .ok (.invokevirtual 229, 3) := by decide +kernel
theorem d_S_entryStands_132 : decode b_S_entryStands 132 = .ok (.ifCond .ne 14, 3) := by decide +kernel
theorem d_S_entryStands_135 : decode b_S_entryStands 135 = .ok (.aload_n 0, 1) := by decide +kernel
theorem d_S_entryStands_136 : decode b_S_entryStands 136 = .ok (.getfield 15, 3) := by decide +kernel
theorem d_S_entryStands_139 : decode b_S_entryStands 139 = .ok (.iload_n 3, 1) := by decide +kernel
theorem d_S_entryStands_140 : decode b_S_entryStands 140 = .ok (.invokevirtual 137, 3) := by decide +kernel
theorem d_S_entryStands_143 : decode b_S_entryStands 143 = .ok (.ifCond .ne 5, 3) := by decide +kernel
theorem d_S_entryStands_146 : decode b_S_entryStands 146 = .ok (.iconst 0, 1) := by decide +kernel
theorem d_S_entryStands_147 : decode b_S_entryStands 147 = .ok (.ireturn, 1) := by decide +kernel
theorem d_S_entryStands_148 : decode b_S_entryStands 148 = .ok (.aload_n 0, 1) := by decide +kernel
theorem d_S_entryStands_149 : decode b_S_entryStands 149 = .ok (.getfield 15, 3) := by decide +kernel
theorem d_S_entryStands_152 : decode b_S_entryStands 152 = .ok (.iload_n 3, 1) := by decide +kernel
theorem d_S_entryStands_153 : decode b_S_entryStands 153 = .ok (.invokevirtual 140, 3) := by decide +kernel
theorem d_S_entryStands_156 : decode b_S_entryStands 156 = .ok (.istore 4, 2) := by decide +kernel
theorem d_S_entryStands_158 : decode b_S_entryStands 158 = .ok (.iload 4, 2) := by decide +kernel
theorem d_S_entryStands_160 : decode b_S_entryStands 160 = .ok (.sipush 16384, 3) := by decide +kernel
theorem d_S_entryStands_163 : decode b_S_entryStands 163 = .ok (.if_icmp .ne 14, 3) := by decide +kernel
theorem d_S_entryStands_166 : decode b_S_entryStands 166 = .ok (.aload_n 0, 1) := by decide +kernel
theorem d_S_entryStands_167 : decode b_S_entryStands 167 = .ok (.getfield 19, 3) := by decide +kernel
theorem d_S_entryStands_170 : decode b_S_entryStands 170 = .ok (.invokevirtual 226, 3) := by decide +kernel
theorem d_S_entryStands_173 : decode b_S_entryStands 173 = .ok (.iconst 2, 1) := by decide +kernel
theorem d_S_entryStands_174 : decode b_S_entryStands 174 = .ok (.if_icmp .eq 21, 3) := by decide +kernel
theorem d_S_entryStands_177 : decode b_S_entryStands 177 = .ok (.iload 4, 2) := by decide +kernel
theorem d_S_entryStands_179 : decode b_S_entryStands 179 = .ok (.ldc 232, 2) := by decide +kernel
theorem d_S_entryStands_181 : decode b_S_entryStands 181 = .ok (.if_icmp .ne 18, 3) := by decide +kernel
theorem d_S_entryStands_184 : decode b_S_entryStands 184 = .ok (.aload_n 0, 1) := by decide +kernel
theorem d_S_entryStands_185 : decode b_S_entryStands 185 = .ok (.getfield 19, 3) := by decide +kernel
theorem d_S_entryStands_188 : decode b_S_entryStands 188 = .ok (.invokevirtual 226, 3) := by decide +kernel
theorem d_S_entryStands_191 : decode b_S_entryStands 191 = .ok (.iconst 1, 1) := by decide +kernel
theorem d_S_entryStands_192 : decode b_S_entryStands 192 = .ok (.if_icmp .ne 7, 3) := by decide +kernel
theorem d_S_entryStands_195 : decode b_S_entryStands 195 = .ok (.iconst 1, 1) := by decide +kernel
theorem d_S_entryStands_196 : decode b_S_entryStands 196 = .ok (.goto 4, 3) := by decide +kernel
theorem d_S_entryStands_199 : decode b_S_entryStands 199 = .ok (.iconst 0, 1) := by decide +kernel
theorem d_S_entryStands_200 : decode b_S_entryStands 200 = .ok (.ireturn, 1) := by decide +kernel
theorem d_S_entriesStand_0 : decode b_S_entriesStand 0 = .ok (.aload_n 0, 1) := by decide +kernel
theorem d_S_entriesStand_1 : decode b_S_entriesStand 1 = .ok (.getfield 15, 3) := by decide +kernel
theorem d_S_entriesStand_4 : decode b_S_entriesStand 4 = .ok (.iload_n 1, 1) := by decide +kernel
theorem d_S_entriesStand_5 : decode b_S_entriesStand 5 = .ok (.invokevirtual 156, 3) := by decide +kernel
theorem d_S_entriesStand_8 : decode b_S_entriesStand 8 = .ok (.lstore_n 3, 1) := by decide +kernel
theorem d_S_entriesStand_9 : decode b_S_entriesStand 9 = .ok (.lload_n 3, 1) := by decide +kernel
theorem d_S_entriesStand_10 : decode b_S_entriesStand 10 = .ok (.lconst 0, 1) := by decide +kernel
theorem d_S_entriesStand_11 : decode b_S_entriesStand 11 = .ok (.lcmp, 1) := by decide +kernel
theorem d_S_entriesStand_12 : decode b_S_entriesStand 12 = .ok (.ifCond .eq 13, 3) := by decide +kernel
theorem d_S_entriesStand_15 : decode b_S_entriesStand 15 = .ok (.lload_n 3, 1) := by decide +kernel
theorem d_S_entriesStand_16 : decode b_S_entriesStand 16 = .ok (.ldc2_w 103, 3) := by decide +kernel
theorem d_S_entriesStand_19 : decode b_S_entriesStand 19 = .ok (.lrem, 1) := by decide +kernel
theorem d_S_entriesStand_20 : decode b_S_entriesStand 20 = .ok (.lconst 0, 1) := by decide +kernel
theorem d_S_entriesStand_21 : decode b_S_entriesStand 21 = .ok (.lcmp, 1) := by decide +kernel
theorem d_S_entriesStand_22 : decode b_S_entriesStand 22 = .ok (.ifCond .eq 5, 3) := by decide +kernel
theorem d_S_entriesStand_25 : decode b_S_entriesStand 25 = .ok (.iconst 0, 1) := by decide +kernel
theorem d_S_entriesStand_26 : decode b_S_entriesStand 26 = .ok (.ireturn, 1) := by decide +kernel
theorem d_S_entriesStand_27 : decode b_S_entriesStand 27 = .ok (.aload_n 0, 1) := by decide +kernel
theorem d_S_entriesStand_28 : decode b_S_entriesStand 28 = .ok (.getfield 19, 3) := by decide +kernel
theorem d_S_entriesStand_31 : decode b_S_entriesStand 31 = .ok (.iload_n 1, 1) := by decide +kernel
theorem d_S_entriesStand_32 : decode b_S_entriesStand 32 = .ok (.invokevirtual 189, 3) := by decide +kernel
theorem d_S_entriesStand_35 : decode b_S_entriesStand 35 = .ok (.iconst 0, 1) := by decide +kernel
theorem d_S_entriesStand_36 : decode b_S_entriesStand 36 = .ok (.istore 5, 2) := by decide +kernel
theorem d_S_entriesStand_38 : decode b_S_entriesStand 38 = .ok (.iload 5, 2) := by decide +kernel
theorem d_S_entriesStand_40 : decode b_S_entriesStand 40 = .ok (.ldc 195, 2) := by decide +kernel
theorem d_S_entriesStand_42 : decode b_S_entriesStand 42 = .ok (.if_icmp .ge 59, 3) := by decide +kernel
theorem d_S_entriesStand_45 : decode b_S_entriesStand 45 = .ok (.aload_n 0, 1) := by decide +kernel
theorem d_S_entriesStand_46 : decode b_S_entriesStand 46 = .ok (.getfield 19, 3) := by decide +kernel
theorem d_S_entriesStand_49 : decode b_S_entriesStand 49 = .ok (.invokevirtual 196, 3) := by decide +kernel
theorem d_S_entriesStand_52 : decode b_S_entriesStand 52 = .ok (.ifCond .eq 49, 3) := by decide +kernel
theorem d_S_entriesStand_55 : decode b_S_entriesStand 55 = .ok (.aload_n 0, 1) := by decide +kernel
theorem d_S_entriesStand_56 : decode b_S_entriesStand 56 = .ok (.getfield 19, 3) := by decide +kernel
theorem d_S_entriesStand_59 : decode b_S_entriesStand 59 = .ok (.invokevirtual 199, 3) := by decide +kernel
theorem d_S_entriesStand_62 : decode b_S_entriesStand 62 = .ok (.ifCond .ne 5, 3) := by decide +kernel
theorem d_S_entriesStand_65 : decode b_S_entriesStand 65 = .ok (.iconst 0, 1) := by decide +kernel
theorem d_S_entriesStand_66 : decode b_S_entriesStand 66 = .ok (.ireturn, 1) := by decide +kernel
theorem d_S_entriesStand_67 : decode b_S_entriesStand 67 = .ok (.aload_n 0, 1) := by decide +kernel
theorem d_S_entriesStand_68 : decode b_S_entriesStand 68 = .ok (.getfield 19, 3) := by decide +kernel
theorem d_S_entriesStand_71 : decode b_S_entriesStand 71 = .ok (.invokevirtual 202, 3) := by decide +kernel
theorem d_S_entriesStand_74 : decode b_S_entriesStand 74 = .ok (.ifCond .ne 14, 3) := by decide +kernel
theorem d_S_entriesStand_77 : decode b_S_entriesStand 77 = .ok (.aload_n 0, 1) := by decide +kernel
theorem d_S_entriesStand_78 : decode b_S_entriesStand 78 = .ok (.iload_n 1, 1) := by decide +kernel
theorem d_S_entriesStand_79 : decode b_S_entriesStand 79 = .ok (.iload_n 2, 1) := by decide +kernel
theorem d_S_entriesStand_80 : decode b_S_entriesStand 80 = .ok (.invokevirtual 205, 3) := by decide +kernel
theorem d_S_entriesStand_83 : decode b_S_entriesStand 83 = .ok (.ifCond .ne 5, 3) := by decide +kernel
theorem d_S_entriesStand_86 : decode b_S_entriesStand 86 = .ok (.iconst 0, 1) := by decide +kernel
theorem d_S_entriesStand_87 : decode b_S_entriesStand 87 = .ok (.ireturn, 1) := by decide +kernel
theorem d_S_entriesStand_88 : decode b_S_entriesStand 88 = .ok (.aload_n 0, 1) := by decide +kernel
theorem d_S_entriesStand_89 : decode b_S_entriesStand 89 = .ok (.getfield 19, 3) := by decide +kernel
theorem d_S_entriesStand_92 : decode b_S_entriesStand 92 = .ok (.invokevirtual 208, 3) := by decide +kernel
theorem d_S_entriesStand_95 : decode b_S_entriesStand 95 = .ok (.iinc 5 1, 3) := by decide +kernel
theorem d_S_entriesStand_98 : decode b_S_entriesStand 98 = .ok (.goto (-60), 3) := by decide +kernel
theorem d_S_entriesStand_101 : decode b_S_entriesStand 101 = .ok (.aload_n 0, 1) := by decide +kernel
theorem d_S_entriesStand_102 : decode b_S_entriesStand 102 = .ok (.getfield 19, 3) := by decide +kernel
theorem d_S_entriesStand_105 : decode b_S_entriesStand 105 = .ok (.invokevirtual 211, 3) := by decide +kernel
theorem d_S_entriesStand_108 : decode b_S_entriesStand 108 = .ok (.iconst 2, 1) := by decide +kernel
theorem d_S_entriesStand_109 : decode b_S_entriesStand 109 = .ok (.if_icmp .lt 7, 3) := by decide +kernel
theorem d_S_entriesStand_112 : decode b_S_entriesStand 112 = .ok (.iconst 1, 1) := by decide +kernel
theorem d_S_entriesStand_113 : decode b_S_entriesStand 113 = .ok (.goto 4, 3) := by decide +kernel
theorem d_S_entriesStand_116 : decode b_S_entriesStand 116 = .ok (.iconst 0, 1) := by decide +kernel
theorem d_S_entriesStand_117 : decode b_S_entriesStand 117 = .ok (.ireturn, 1) := by decide +kernel
theorem d_J_fill_0 : decode b_J_fill 0 = .ok (.iconst 0, 1) := by decide +kernel
theorem d_J_fill_1 : decode b_J_fill 1 = .ok (.istore_n 2, 1) := by decide +kernel
theorem d_J_fill_2 : decode b_J_fill 2 = .ok (.aload_n 0, 1) := by decide +kernel
theorem d_J_fill_3 : decode b_J_fill 3 = .ok (.arraylength, 1) := by decide +kernel
theorem d_J_fill_4 : decode b_J_fill 4 = .ok (.istore_n 3, 1) := by decide +kernel
theorem d_J_fill_5 : decode b_J_fill 5 = .ok (.iload_n 2, 1) := by decide +kernel
theorem d_J_fill_6 : decode b_J_fill 6 = .ok (.iload_n 3, 1) := by decide +kernel
theorem d_J_fill_7 : decode b_J_fill 7 = .ok (.if_icmp .ge 13, 3) := by decide +kernel
theorem d_J_fill_10 : decode b_J_fill 10 = .ok (.aload_n 0, 1) := by decide +kernel
theorem d_J_fill_11 : decode b_J_fill 11 = .ok (.iload_n 2, 1) := by decide +kernel
theorem d_J_fill_12 : decode b_J_fill 12 = .ok (.iload_n 1, 1) := by decide +kernel
theorem d_J_fill_13 : decode b_J_fill 13 = .ok (.iastore, 1) := by decide +kernel
theorem d_J_fill_14 : decode b_J_fill 14 = .ok (.iinc 2 1, 3) := by decide +kernel
theorem d_J_fill_17 : decode b_J_fill 17 = .ok (.goto (-12), 3) := by decide +kernel
theorem d_J_fill_20 : decode b_J_fill 20 = .ok (.return_, 1) := by decide +kernel
end
section
def f_J_fill7_5 (N : Nat) (NW : Nat) : Nat → (Nat → Int32) → Int32 → Int32 → Int32 → Option ((Nat → Int32))
  | 0, _, _, _, _ => none
  | k+1, tk, x1, x2, x3 => (if x3 ≤ x2 then some (tk) else if oob x2 512 then none else lt1 (upd tk (Int32.toNatClampNeg x2) x1) (fun (tk_3 : Nat → Int32) => lt1 (x2 + (1 : Int32)) (fun (v2_4 : Int32) => (f_J_fill7_5 N NW k tk_3 x1 v2_4 x3))))
def f_J_fill7 (N : Nat) (NW : Nat) (tk : Nat → Int32) (a1 : Int32) : Option ((Nat → Int32)) := (f_J_fill7_5 N NW N tk a1 ((0 : Int32)) ((512 : Int32)))
def f_J_fill8_5 (N : Nat) (NW : Nat) : Nat → (Nat → Int32) → Int32 → Int32 → Int32 → Option ((Nat → Int32))
  | 0, _, _, _, _ => none
  | k+1, kn, x1, x2, x3 => (if x3 ≤ x2 then some (kn) else if oob x2 4097 then none else lt1 (upd kn (Int32.toNatClampNeg x2) x1) (fun (kn_3 : Nat → Int32) => lt1 (x2 + (1 : Int32)) (fun (v2_4 : Int32) => (f_J_fill8_5 N NW k kn_3 x1 v2_4 x3))))
def f_J_fill8 (N : Nat) (NW : Nat) (kn : Nat → Int32) (a1 : Int32) : Option ((Nat → Int32)) := (f_J_fill8_5 N NW N kn a1 ((0 : Int32)) ((4097 : Int32)))
def f_S_forget (NW : Nat) (fd : Int32) : Option (Int32) := some ((-1 : Int32))
def f_S_superblockHas (NW : Nat) (sz : Int32) (wd : Nat → Int64) (a1 : Int32) (a2 : Int32) (a3 : Int64) : Option (Int32) := bd1 (f_D_number NW sz wd (Int32.toInt64 (((1024 : Int32)) + a1)) a2) (fun (r_1 : Int64) => (if r_1 = a3 then some ((1 : Int32)) else some ((0 : Int32))))
def f_S_superblockStands (NW : Nat) (bk : Int32) (sz : Int32) (wd : Nat → Int64) (gB : Int32) (gI : Int32) (gN : Int32) (iN : Int32) : Option (Int32 × Int32 × Int32 × Int32 × Int32) := bd5 (f_L_readGroups NW bk sz wd gB gI gN iN) (fun (r_1 : Int32) (gB_2 : Int32) (gI_3 : Int32) (gN_4 : Int32) (iN_5 : Int32) => (if r_1 = 0 then some ((0 : Int32), gB_2, gI_3, gN_4, iN_5) else bd1 (f_L_inodes NW iN_5) (fun (r_8 : Int32) => bd1 (f_S_superblockHas NW sz wd ((0 : Int32)) ((4 : Int32)) (Int32.toInt64 r_8)) (fun (r_10 : Int32) => (if r_10 = 0 then some ((0 : Int32), gB_2, gI_3, gN_4, iN_5) else bd1 (f_D_blocks NW bk) (fun (r_13 : Int32) => bd1 (f_S_superblockHas NW sz wd ((4 : Int32)) ((4 : Int32)) (Int32.toInt64 r_13)) (fun (r_15 : Int32) => (if r_15 = 0 then some ((0 : Int32), gB_2, gI_3, gN_4, iN_5) else bd1 (f_S_superblockHas NW sz wd ((20 : Int32)) ((4 : Int32)) ((1 : Int64))) (fun (r_18 : Int32) => (if r_18 = 0 then some ((0 : Int32), gB_2, gI_3, gN_4, iN_5) else bd1 (f_S_superblockHas NW sz wd ((24 : Int32)) ((4 : Int32)) ((0 : Int64))) (fun (r_21 : Int32) => (if r_21 = 0 then some ((0 : Int32), gB_2, gI_3, gN_4, iN_5) else bd1 (f_L_groupBlocks NW gB_2) (fun (r_24 : Int32) => bd1 (f_S_superblockHas NW sz wd ((36 : Int32)) ((4 : Int32)) (Int32.toInt64 r_24)) (fun (r_26 : Int32) => (if r_26 = 0 then some ((0 : Int32), gB_2, gI_3, gN_4, iN_5) else bd1 (f_S_superblockHas NW sz wd ((56 : Int32)) ((2 : Int32)) ((61267 : Int64))) (fun (r_29 : Int32) => (if r_29 = 0 then some ((0 : Int32), gB_2, gI_3, gN_4, iN_5) else bd1 (f_S_superblockHas NW sz wd ((58 : Int32)) ((2 : Int32)) ((1 : Int64))) (fun (r_32 : Int32) => (if r_32 = 0 then some ((0 : Int32), gB_2, gI_3, gN_4, iN_5) else bd1 (f_S_superblockHas NW sz wd ((76 : Int32)) ((4 : Int32)) ((1 : Int64))) (fun (r_35 : Int32) => (if r_35 = 0 then some ((0 : Int32), gB_2, gI_3, gN_4, iN_5) else bd1 (f_S_superblockHas NW sz wd ((84 : Int32)) ((4 : Int32)) ((11 : Int64))) (fun (r_38 : Int32) => (if r_38 = 0 then some ((0 : Int32), gB_2, gI_3, gN_4, iN_5) else bd1 (f_S_superblockHas NW sz wd ((88 : Int32)) ((2 : Int32)) ((128 : Int64))) (fun (r_41 : Int32) => (if r_41 = 0 then some ((0 : Int32), gB_2, gI_3, gN_4, iN_5) else bd1 (f_S_superblockHas NW sz wd ((90 : Int32)) ((2 : Int32)) ((0 : Int64))) (fun (r_44 : Int32) => (if r_44 = 0 then some ((0 : Int32), gB_2, gI_3, gN_4, iN_5) else bd1 (f_S_superblockHas NW sz wd ((96 : Int32)) ((4 : Int32)) ((2 : Int64))) (fun (r_47 : Int32) => (if r_47 = 0 then some ((0 : Int32), gB_2, gI_3, gN_4, iN_5) else some ((1 : Int32), gB_2, gI_3, gN_4, iN_5))))))))))))))))))))))))))))))
def f_S_hasCopies_60 (N : Nat) (NW : Nat) (sz : Int32) (wd : Nat → Int64) (gB : Int32) (K17 : Int32 → Int64 → Int32 → Option (Int32)) (x1 : Int32) (x2 : Int64) (x4 : Int32) (x5 : Int64) : Option (Int32) := bd1 (f_D_number NW sz wd (x2 + (Int32.toInt64 x4)) ((8 : Int32))) (fun (r_1 : Int64) => (if r_1 = x5 then lt1 (x4 + (8 : Int32)) (fun (v4_4 : Int32) => (K17 x1 x2 v4_4)) else some ((0 : Int32))))
def f_S_hasCopies_17 (N : Nat) (NW : Nat) (sz : Int32) (wd : Nat → Int64) (gB : Int32) : Nat → Int32 → Int64 → Int32 → Option (Int32)
  | 0, _, _, _ => none
  | k+1, x1, x2, x4 => (if ((2048 : Int32)) ≤ x4 then some ((1 : Int32)) else bd1 (f_D_number NW sz wd (Int32.toInt64 (((1024 : Int32)) + x4)) ((8 : Int32))) (fun (r_2 : Int64) => (if x4 = ((88 : Int32)) then lt1 (r_2 ||| ((Int32.toInt64 x1) <<< ((Int32.toInt64 ((16 : Int32))) &&& 63))) (fun (v5_5 : Int64) => (f_S_hasCopies_60 N NW sz wd gB (f_S_hasCopies_17 N NW sz wd gB k) x1 x2 x4 v5_5)) else (f_S_hasCopies_60 N NW sz wd gB (f_S_hasCopies_17 N NW sz wd gB k) x1 x2 x4 r_2))))
def f_S_hasCopies (N : Nat) (NW : Nat) (sz : Int32) (wd : Nat → Int64) (gB : Int32) (a1 : Int32) : Option (Int32) := bd1 (f_L_firstBlock NW gB a1) (fun (r_1 : Int32) => lt1 (((1024 : Int64)) * (Int32.toInt64 r_1)) (fun (v2_3 : Int64) => (f_S_hasCopies_17 N NW sz wd gB N a1 v2_3 ((0 : Int32)))))
def f_S_copiesStand_2 (N : Nat) (NW : Nat) (bk : Int32) (sz : Int32) (wd : Nat → Int64) (gB : Int32) (gN : Int32) : Nat → Int32 → Option (Int32)
  | 0, _ => none
  | k+1, x1 => bd1 (f_L_groups NW gN) (fun (r_1 : Int32) => (if r_1 ≤ x1 then some ((1 : Int32)) else bd1 (f_L_blocksOf NW bk gB x1) (fun (r_4 : Int32) => (if r_4 < ((2 : Int32)) then some ((0 : Int32)) else bd1 (f_S_hasCopies N NW sz wd gB x1) (fun (r_7 : Int32) => (if r_7 = 0 then some ((0 : Int32)) else lt1 (x1 + (1 : Int32)) (fun (v1_10 : Int32) => (f_S_copiesStand_2 N NW bk sz wd gB gN k v1_10))))))))
def f_S_copiesStand (N : Nat) (NW : Nat) (bk : Int32) (sz : Int32) (wd : Nat → Int64) (gB : Int32) (gN : Int32) : Option (Int32) := (f_S_copiesStand_2 N NW bk sz wd gB gN N ((1 : Int32)))
def f_S_fix_6 (N : Nat) (NW : Nat) : Nat → (Nat → Int32) → Int32 → Int32 → Int32 → Option ((Nat → Int32))
  | 0, _, _, _, _ => none
  | k+1, tk, x1, x2, x3 => (if (x1 + x2) ≤ x3 then some (tk) else (if ((512 : Int32)) ≤ x3 then some (tk) else if oob x3 512 then none else lt1 (upd tk (Int32.toNatClampNeg x3) ((1 : Int32))) (fun (tk_4 : Nat → Int32) => lt1 (x3 + (1 : Int32)) (fun (v3_5 : Int32) => (f_S_fix_6 N NW k tk_4 x1 x2 v3_5)))))
def f_S_fix (N : Nat) (NW : Nat) (tk : Nat → Int32) (a1 : Int32) (a2 : Int32) : Option ((Nat → Int32)) := lt1 (if a1 < ((0 : Int32)) then ((0 : Int32)) else a1) (fun (v3_1 : Int32) => (f_S_fix_6 N NW N tk a1 a2 v3_1))
def f_S_groupsStand_10 (N : Nat) (NW : Nat) (bk : Int32) (sz : Int32) (wd : Nat → Int64) (gB : Int32) (gI : Int32) (gN : Int32) : Nat → (Nat → Int32) → (Nat → Int32) → Int32 → Option (Int32 × (Nat → Int32) × (Nat → Int32))
  | 0, _, _, _ => none
  | k+1, mb, tk, x1 => bd1 (f_L_groups NW gN) (fun (r_1 : Int32) => (if r_1 ≤ x1 then some ((1 : Int32), mb, tk) else bd1 (f_L_firstBlock NW gB x1) (fun (r_4 : Int32) => bd1 (f_L_blocksOf NW bk gB x1) (fun (r_6 : Int32) => lt1 (r_4 + r_6) (fun (v3_8 : Int32) => bd1 (f_L_groupInodes NW gI) (fun (r_9 : Int32) => lt1 (r_9 / ((8 : Int32))) (fun (v4_11 : Int32) => bd1 (f_L_described NW sz wd x1 ((0 : Int32)) ((4 : Int32))) (fun (r_12 : Int64) => (if r_12 < (Int32.toInt64 (r_4 + ((2 : Int32)))) then some ((0 : Int32), mb, tk) else (if ((r_12 + ((2 : Int64))) + (Int32.toInt64 v4_11)) ≤ (Int32.toInt64 v3_8) then bd1 (f_L_described NW sz wd x1 ((4 : Int32)) ((4 : Int32))) (fun (r_16 : Int64) => (if r_16 = (r_12 + ((1 : Int64))) then bd1 (f_L_described NW sz wd x1 ((8 : Int32)) ((4 : Int32))) (fun (r_19 : Int64) => (if r_19 = (r_12 + ((2 : Int64))) then bd1 (f_L_setMap NW mb x1 (Int64.toInt32 r_12)) (fun (mb_22 : Nat → Int32) => bd1 (f_S_fix N NW tk r_4 ((2 : Int32))) (fun (tk_24 : Nat → Int32) => bd1 (f_S_fix N NW tk_24 (Int64.toInt32 r_12) (((2 : Int32)) + v4_11)) (fun (tk_26 : Nat → Int32) => lt1 (x1 + (1 : Int32)) (fun (v1_28 : Int32) => (f_S_groupsStand_10 N NW bk sz wd gB gI gN k mb_22 tk_26 v1_28))))) else some ((0 : Int32), mb, tk))) else some ((0 : Int32), mb, tk))) else some ((0 : Int32), mb, tk)))))))))))
def f_S_groupsStand (N : Nat) (NW : Nat) (bk : Int32) (sz : Int32) (wd : Nat → Int64) (mb : Nat → Int32) (gB : Int32) (gI : Int32) (gN : Int32) (tk : Nat → Int32) : Option (Int32 × (Nat → Int32) × (Nat → Int32)) := bd1 (f_J_fill7 N NW tk ((0 : Int32))) (fun (tk_1 : Nat → Int32) => (f_S_groupsStand_10 N NW bk sz wd gB gI gN N mb tk_1 ((0 : Int32))))
def f_S_spareAreZero_100 (N : Nat) (NW : Nat) (sz : Int32) (wd : Nat → Int64) (mb : Nat → Int32) (gI : Int32) (x3 : Int64) : Option (Int32) := bd1 (f_D_number NW sz wd (x3 + ((96 : Int64))) ((4 : Int32))) (fun (r_1 : Int64) => (if r_1 = ((0 : Int64)) then some ((1 : Int32)) else some ((0 : Int32))))
def f_S_spareAreZero_75 (N : Nat) (NW : Nat) (sz : Int32) (wd : Nat → Int64) (mb : Nat → Int32) (gI : Int32) (x2 : Int32) (x3 : Int64) : Option (Int32) := (if ((268 : Int32)) < x2 then (f_S_spareAreZero_100 N NW sz wd mb gI x3) else bd1 (f_D_number NW sz wd (x3 + ((92 : Int64))) ((4 : Int32))) (fun (r_2 : Int64) => (if r_2 = ((0 : Int64)) then (f_S_spareAreZero_100 N NW sz wd mb gI x3) else some ((0 : Int32)))))
def f_S_spareAreZero_12 (N : Nat) (NW : Nat) (sz : Int32) (wd : Nat → Int64) (mb : Nat → Int32) (gI : Int32) : Nat → Int32 → Int64 → Int32 → Option (Int32)
  | 0, _, _, _ => none
  | k+1, x2, x3, x5 => (if ((12 : Int32)) ≤ x5 then (if ((12 : Int32)) < x2 then (f_S_spareAreZero_75 N NW sz wd mb gI x2 x3) else bd1 (f_D_number NW sz wd (x3 + ((88 : Int64))) ((4 : Int32))) (fun (r_3 : Int64) => (if r_3 = ((0 : Int64)) then (f_S_spareAreZero_75 N NW sz wd mb gI x2 x3) else some ((0 : Int32))))) else bd1 (f_D_number NW sz wd ((x3 + ((40 : Int64))) + (Int32.toInt64 (((4 : Int32)) * x5))) ((4 : Int32))) (fun (r_6 : Int64) => (if r_6 = ((0 : Int64)) then lt1 (x5 + (1 : Int32)) (fun (v5_9 : Int32) => (f_S_spareAreZero_12 N NW sz wd mb gI k x2 x3 v5_9)) else some ((0 : Int32)))))
def f_S_spareAreZero (N : Nat) (NW : Nat) (sz : Int32) (wd : Nat → Int64) (mb : Nat → Int32) (gI : Int32) (a1 : Int32) (a2 : Int32) : Option (Int32) := bd1 (f_L_inodePlace NW mb gI a1) (fun (r_1 : Int64) => (f_S_spareAreZero_12 N NW sz wd mb gI N a2 r_1 a2))
def f_S_take (NW : Nat) (bk : Int32) (tk : Nat → Int32) (a1 : Int64) : Option (Int32 × (Nat → Int32)) := (if a1 < ((1 : Int64)) then some ((0 : Int32), tk) else bd1 (f_D_blocks NW bk) (fun (r_2 : Int32) => (if (Int32.toInt64 r_2) ≤ a1 then some ((0 : Int32), tk) else (if a1 < (Int32.toInt64 ((512 : Int32))) then lt1 (Int64.toInt32 a1) (fun (v3_6 : Int32) => if oob v3_6 512 then none else (if (tk (Int32.toNatClampNeg v3_6)) = 0 then if oob v3_6 512 then none else lt1 (upd tk (Int32.toNatClampNeg v3_6) ((1 : Int32))) (fun (tk_10 : Nat → Int32) => some ((1 : Int32), tk_10)) else some ((0 : Int32), tk))) else some ((0 : Int32), tk)))))
def f_S_takeWhole_241 (N : Nat) (NW : Nat) (bk : Int32) (sz : Int32) (wd : Nat → Int64) (mb : Nat → Int32) (gI : Int32) : Nat → (Nat → Int32) → Int32 → Int32 → Int32 → Option (Int32 × (Nat → Int32))
  | 0, _, _, _, _ => none
  | k+1, tk, x1, x4, x9 => (if x4 ≤ x9 then some ((1 : Int32), tk) else bd1 (f_L_blockOf NW sz wd mb gI x1 x9) (fun (r_2 : Int64) => bd2 (f_S_take NW bk tk r_2) (fun (r_4 : Int32) (tk_5 : Nat → Int32) => (if r_4 = 0 then some ((0 : Int32), tk_5) else lt1 (x9 + (1 : Int32)) (fun (v9_8 : Int32) => (f_S_takeWhole_241 N NW bk sz wd mb gI k tk_5 x1 x4 v9_8))))))
def f_S_takeWhole_196 (N : Nat) (NW : Nat) (bk : Int32) (sz : Int32) (wd : Nat → Int64) (mb : Nat → Int32) (gI : Int32) : Nat → (Nat → Int32) → Int32 → Int32 → Int32 → Int64 → Int32 → Option (Int32 × (Nat → Int32))
  | 0, _, _, _, _, _, _ => none
  | k+1, tk, x1, x4, x5, x7, x9 => (if x5 ≤ x9 then (f_S_takeWhole_241 N NW bk sz wd mb gI N tk x1 x4 ((0 : Int32))) else bd1 (f_D_number NW sz wd ((((1024 : Int64)) * x7) + (Int32.toInt64 (((4 : Int32)) * x9))) ((4 : Int32))) (fun (r_2 : Int64) => bd2 (f_S_take NW bk tk r_2) (fun (r_4 : Int32) (tk_5 : Nat → Int32) => (if r_4 = 0 then some ((0 : Int32), tk_5) else lt1 (x9 + (1 : Int32)) (fun (v9_8 : Int32) => (f_S_takeWhole_196 N NW bk sz wd mb gI k tk_5 x1 x4 x5 x7 v9_8))))))
def f_S_takeWhole_161 (N : Nat) (NW : Nat) (bk : Int32) (sz : Int32) (wd : Nat → Int64) (mb : Nat → Int32) (gI : Int32) (tk : Nat → Int32) (x1 : Int32) (x4 : Int32) (x5 : Int32) : Option (Int32 × (Nat → Int32)) := bd1 (f_L_field NW sz wd mb gI x1 ((92 : Int32)) ((4 : Int32))) (fun (r_1 : Int64) => (if x4 ≤ ((268 : Int32)) then (f_S_takeWhole_196 N NW bk sz wd mb gI N tk x1 x4 x5 r_1 ((0 : Int32))) else bd2 (f_S_take NW bk tk r_1) (fun (r_4 : Int32) (tk_5 : Nat → Int32) => (if r_4 = 0 then some ((0 : Int32), tk_5) else (f_S_takeWhole_196 N NW bk sz wd mb gI N tk_5 x1 x4 x5 r_1 ((0 : Int32)))))))
def f_S_takeWhole_93 (N : Nat) (NW : Nat) (bk : Int32) (sz : Int32) (wd : Nat → Int64) (mb : Nat → Int32) (gI : Int32) (tk : Nat → Int32) (x1 : Int32) (x4 : Int32) (x5 : Int32) (s0 : Int32) (s1 : Int32) : Option (Int32 × (Nat → Int32)) := lt1 ((s0 + s1) + x5) (fun (v6_1 : Int32) => bd1 (f_L_field NW sz wd mb gI x1 ((28 : Int32)) ((4 : Int32))) (fun (r_2 : Int64) => (if r_2 = (Int32.toInt64 (((2 : Int32)) * (x4 + v6_1))) then bd1 (f_S_spareAreZero N NW sz wd mb gI x1 x4) (fun (r_5 : Int32) => (if r_5 = 0 then some ((0 : Int32), tk) else (if x4 ≤ ((12 : Int32)) then (f_S_takeWhole_161 N NW bk sz wd mb gI tk x1 x4 x5) else bd1 (f_L_field NW sz wd mb gI x1 ((88 : Int32)) ((4 : Int32))) (fun (r_9 : Int64) => bd2 (f_S_take NW bk tk r_9) (fun (r_11 : Int32) (tk_12 : Nat → Int32) => (if r_11 = 0 then some ((0 : Int32), tk_12) else (f_S_takeWhole_161 N NW bk sz wd mb gI tk_12 x1 x4 x5))))))) else some ((0 : Int32), tk))))
def f_S_takeWhole_80 (N : Nat) (NW : Nat) (bk : Int32) (sz : Int32) (wd : Nat → Int64) (mb : Nat → Int32) (gI : Int32) (tk : Nat → Int32) (x1 : Int32) (x4 : Int32) (x5 : Int32) (s0 : Int32) : Option (Int32 × (Nat → Int32)) := (if x4 ≤ ((268 : Int32)) then (f_S_takeWhole_93 N NW bk sz wd mb gI tk x1 x4 x5 s0 ((0 : Int32))) else (f_S_takeWhole_93 N NW bk sz wd mb gI tk x1 x4 x5 s0 ((1 : Int32))))
def f_S_takeWhole_66 (N : Nat) (NW : Nat) (bk : Int32) (sz : Int32) (wd : Nat → Int64) (mb : Nat → Int32) (gI : Int32) (tk : Nat → Int32) (x1 : Int32) (x4 : Int32) (s0 : Int32) : Option (Int32 × (Nat → Int32)) := (if x4 ≤ ((12 : Int32)) then (f_S_takeWhole_80 N NW bk sz wd mb gI tk x1 x4 s0 ((0 : Int32))) else (f_S_takeWhole_80 N NW bk sz wd mb gI tk x1 x4 s0 ((1 : Int32))))
def f_S_takeWhole (N : Nat) (NW : Nat) (bk : Int32) (sz : Int32) (wd : Nat → Int64) (mb : Nat → Int32) (gI : Int32) (tk : Nat → Int32) (a1 : Int32) : Option (Int32 × (Nat → Int32)) := bd1 (f_L_sizeOf NW sz wd mb gI a1) (fun (r_1 : Int64) => bd1 (f_D_blocks NW bk) (fun (r_3 : Int32) => (if r_1 ≤ (((1024 : Int64)) * (Int32.toInt64 r_3)) then bd1 (f_L_blocksFor NW r_1) (fun (r_6 : Int32) => (if r_6 ≤ ((268 : Int32)) then (f_S_takeWhole_66 N NW bk sz wd mb gI tk a1 r_6 ((0 : Int32))) else (f_S_takeWhole_66 N NW bk sz wd mb gI tk a1 r_6 ((((r_6 - ((268 : Int32))) + ((256 : Int32))) - ((1 : Int32))) / ((256 : Int32)))))) else some ((0 : Int32), tk))))
def f_S_standInLine (NW : Nat) (kn : Nat → Int32) (li : Nat → Int32) (pa : Nat → Int32) (ins : Nat → Int32) (cm : Int32) (a1 : Int32) (a2 : Int32) : Option ((Nat → Int32) × (Nat → Int32) × (Nat → Int32) × (Nat → Int32) × Int32) := (if a1 < ((1 : Int32)) then some (kn, li, pa, ins, cm) else (if ((4097 : Int32)) ≤ a1 then some (kn, li, pa, ins, cm) else (if cm < 0 then some (kn, li, pa, ins, cm) else (if cm < ((4096 : Int32)) then if oob a1 4097 then none else lt1 (upd kn (Int32.toNatClampNeg a1) ((1 : Int32))) (fun (kn_6 : Nat → Int32) => if oob cm 4096 then none else lt1 (upd li (Int32.toNatClampNeg cm) a1) (fun (li_8 : Nat → Int32) => if oob cm 4096 then none else lt1 (upd pa (Int32.toNatClampNeg cm) a2) (fun (pa_10 : Nat → Int32) => if oob cm 4096 then none else lt1 (upd ins (Int32.toNatClampNeg cm) ((0 : Int32))) (fun (ins_12 : Nat → Int32) => some (kn_6, li_8, pa_10, ins_12, cm + ((1 : Int32))))))) else some (kn, li, pa, ins, cm)))))
def f_S_entryStands_177 (N : Nat) (NW : Nat) (sz : Int32) (wd : Nat → Int64) (mb : Nat → Int32) (gI : Int32) (iN : Int32) (od : Int32) (pl : Int64) (hd : Int64) (x4 : Int32) : Option (Int32) := (if x4 = ((32768 : Int32)) then bd1 (f_E_mark NW hd) (fun (r_2 : Int32) => (if r_2 = ((1 : Int32)) then some ((1 : Int32)) else some ((0 : Int32)))) else some ((0 : Int32)))
def f_S_entryStands (N : Nat) (NW : Nat) (sz : Int32) (wd : Nat → Int64) (mb : Nat → Int32) (gI : Int32) (iN : Int32) (od : Int32) (pl : Int64) (hd : Int64) (a1 : Int32) (a2 : Int32) : Option (Int32) := bd1 (f_E_hasInode NW iN hd) (fun (r_1 : Int32) => (if r_1 = 0 then some ((0 : Int32)) else bd1 (f_E_hasName N NW sz wd pl hd) (fun (r_4 : Int32) => (if r_4 = 0 then some ((0 : Int32)) else bd1 (f_E_inode NW hd) (fun (r_7 : Int32) => bd1 (f_E_order NW od) (fun (r_9 : Int32) => (if r_9 = 0 then bd1 (f_E_isOneDot NW sz wd pl hd) (fun (r_37 : Int32) => (if r_37 = 0 then some ((0 : Int32)) else (if r_7 = a1 then bd1 (f_E_mark NW hd) (fun (r_41 : Int32) => (if r_41 = ((2 : Int32)) then some ((1 : Int32)) else some ((0 : Int32)))) else some ((0 : Int32))))) else bd1 (f_E_order NW od) (fun (r_12 : Int32) => (if r_12 = ((1 : Int32)) then bd1 (f_E_isTwoDots NW sz wd pl hd) (fun (r_30 : Int32) => (if r_30 = 0 then some ((0 : Int32)) else (if r_7 = a2 then bd1 (f_E_mark NW hd) (fun (r_34 : Int32) => (if r_34 = ((2 : Int32)) then some ((1 : Int32)) else some ((0 : Int32)))) else some ((0 : Int32))))) else bd1 (f_E_isOneDot NW sz wd pl hd) (fun (r_15 : Int32) => (if r_15 = 0 then bd1 (f_E_isTwoDots NW sz wd pl hd) (fun (r_18 : Int32) => (if r_18 = 0 then bd1 (f_L_isUsed NW sz wd mb gI r_7) (fun (r_21 : Int32) => (if r_21 = 0 then some ((0 : Int32)) else bd1 (f_L_typeOf NW sz wd mb gI r_7) (fun (r_24 : Int32) => (if r_24 = ((16384 : Int32)) then bd1 (f_E_mark NW hd) (fun (r_27 : Int32) => (if r_27 = ((2 : Int32)) then some ((1 : Int32)) else (f_S_entryStands_177 N NW sz wd mb gI iN od pl hd r_24))) else (f_S_entryStands_177 N NW sz wd mb gI iN od pl hd r_24))))) else some ((0 : Int32)))) else some ((0 : Int32)))))))))))))
def f_S_entriesStand_101 (N : Nat) (NW : Nat) (sz : Int32) (wd : Nat → Int64) (mb : Nat → Int32) (gI : Int32) (iN : Int32) (dr : Int32) (es : Int64) (of : Int64) (od : Int32) (pl : Int64) (hd : Int64) : Option (Int32 × Int32 × Int64 × Int64 × Int32 × Int64 × Int64) := bd1 (f_E_order NW od) (fun (r_1 : Int32) => (if r_1 < ((2 : Int32)) then some ((0 : Int32), dr, es, of, od, pl, hd) else some ((1 : Int32), dr, es, of, od, pl, hd)))
def f_S_entriesStand_88 (N : Nat) (NW : Nat) (sz : Int32) (wd : Nat → Int64) (mb : Nat → Int32) (gI : Int32) (iN : Int32) (K38 : Int32 → Int64 → Int64 → Int32 → Int64 → Int64 → Int32 → Int32 → Int32 → Option (Int32 × Int32 × Int64 × Int64 × Int32 × Int64 × Int64)) (dr : Int32) (es : Int64) (of : Int64) (od : Int32) (pl : Int64) (hd : Int64) (x1 : Int32) (x2 : Int32) (x5 : Int32) : Option (Int32 × Int32 × Int64 × Int64 × Int32 × Int64 × Int64) := bd4 (f_E_advance NW sz wd mb gI dr of od pl hd) (fun (of_1 : Int64) (od_2 : Int32) (pl_3 : Int64) (hd_4 : Int64) => lt1 (x5 + (1 : Int32)) (fun (v5_6 : Int32) => (K38 dr es of_1 od_2 pl_3 hd_4 x1 x2 v5_6)))
def f_S_entriesStand_38 (N : Nat) (NW : Nat) (sz : Int32) (wd : Nat → Int64) (mb : Nat → Int32) (gI : Int32) (iN : Int32) : Nat → Int32 → Int64 → Int64 → Int32 → Int64 → Int64 → Int32 → Int32 → Int32 → Option (Int32 × Int32 × Int64 × Int64 × Int32 × Int64 × Int64)
  | 0, _, _, _, _, _, _, _, _, _ => none
  | k+1, dr, es, of, od, pl, hd, x1, x2, x5 => (if ((43691 : Int32)) ≤ x5 then (f_S_entriesStand_101 N NW sz wd mb gI iN dr es of od pl hd) else bd1 (f_E_isOn NW es of) (fun (r_2 : Int32) => (if r_2 = 0 then (f_S_entriesStand_101 N NW sz wd mb gI iN dr es of od pl hd) else bd1 (f_E_fits NW of hd) (fun (r_5 : Int32) => (if r_5 = 0 then some ((0 : Int32), dr, es, of, od, pl, hd) else bd1 (f_E_isEmpty NW od hd) (fun (r_8 : Int32) => (if r_8 = 0 then bd1 (f_S_entryStands N NW sz wd mb gI iN od pl hd x1 x2) (fun (r_11 : Int32) => (if r_11 = 0 then some ((0 : Int32), dr, es, of, od, pl, hd) else (f_S_entriesStand_88 N NW sz wd mb gI iN (f_S_entriesStand_38 N NW sz wd mb gI iN k) dr es of od pl hd x1 x2 x5))) else (f_S_entriesStand_88 N NW sz wd mb gI iN (f_S_entriesStand_38 N NW sz wd mb gI iN k) dr es of od pl hd x1 x2 x5))))))))
def f_S_entriesStand (N : Nat) (NW : Nat) (sz : Int32) (wd : Nat → Int64) (mb : Nat → Int32) (gI : Int32) (iN : Int32) (dr : Int32) (es : Int64) (of : Int64) (od : Int32) (pl : Int64) (hd : Int64) (a1 : Int32) (a2 : Int32) : Option (Int32 × Int32 × Int64 × Int64 × Int32 × Int64 × Int64) := bd1 (f_L_sizeOf NW sz wd mb gI a1) (fun (r_1 : Int64) => (if r_1 = ((0 : Int64)) then some ((0 : Int32), dr, es, of, od, pl, hd) else (if (r_1 - r_1 / ((1024 : Int64)) * ((1024 : Int64))) = ((0 : Int64)) then bd6 (f_E_start NW sz wd mb gI dr es of od pl hd a1) (fun (dr_5 : Int32) (es_6 : Int64) (of_7 : Int64) (od_8 : Int32) (pl_9 : Int64) (hd_10 : Int64) => (f_S_entriesStand_38 N NW sz wd mb gI iN N dr_5 es_6 of_7 od_8 pl_9 hd_10 a1 a2 ((0 : Int32)))) else some ((0 : Int32), dr, es, of, od, pl, hd))))
end
section
set_option maxHeartbeats 4000000 in
set_option maxRecDepth 100000 in
theorem c_J_fill7 {l : Launch} {dC : Nat → ClassId} {dI : Nat → Nat → Nat} {N : Nat} {h : Nat → Nat} {cI : ClassId} {cL : ClassId} {NW : Nat} {bk : Int32} {sz : Int32} {wd : Nat → Int64} {mb : Nat → Int32} {gB : Int32} {gI : Int32} {gN : Int32} {iN : Int32} {dr : Int32} {es : Int64} {of : Int64} {od : Int32} {pl : Int64} {hd : Int64} {tk : Nat → Int32} {kn : Nat → Int32} {li : Nat → Int32} {pa : Nat → Int32} {ins : Nat → Int32} {cm : Int32} {fd : Int32} {hr : Int32} {hs : Nat} {a1 : Int32} {tk' : Nat → Int32} (hf : f_J_fill7 N NW tk a1 = some (tk')) : Met l y_J_fill ws_J_fill { frames := 0, cells := 0, slots := 0, locals := 0 } (PcU (dC, dI) clAll [(cI, .int), (cL, .long)] (wC h cI cL NW bk sz wd mb gB gI gN iN dr es of od pl hd tk kn li pa ins cm fd hr) hs [.ref (h 7), .int a1]) (QUv (dC, dI) clAll [(cI, .int), (cL, .long)] (wC h cI cL NW bk sz wd mb gB gI gN iN dr es of od pl hd tk kn li pa ins cm fd hr) (wC h cI cL NW bk sz wd mb gB gI gN iN dr es of od pl hd tk' kn li pa ins cm fd hr) hs) 0 0 (va_A (wC h cI cL NW bk sz wd mb gB gI gN iN dr es of od pl hd tk kn li pa ins cm fd hr) hs) := by
  refine mUv (cc := b_J_fill) (maxL := 4) (by decide) rfl (Nat.le_of_ble_eq_true rfl) ?_
  intro p e s m args below meth c Q hx hb hml hts hown A hA hK hP hD hS hret ls hl
  have htb : ∀ w ∈ TB, w.before args s = true := fun w h => hts w (List.mem_cons_of_mem _ h)
  have hl : lv_has ls 4 [(0, .ref (h 7)), (1, .int a1)] := hl
  have hj_5 : ∀ (k_5 : Nat) (tk : Nat → Int32) (x1 : Int32) (x2 : Int32) (x3 : Int32) (H : Heap) (locs : List Loc) (ls : Array Slot), f_J_fill7_5 N NW k_5 tk x1 x2 x3 = some (tk') → va_P (dC, dI) clAll (wC h cI cL NW bk sz wd mb gB gI gN iN dr es of od pl hd tk kn li pa ins cm fd hr) H → va_D A (wC h cI cL NW bk sz wd mb gB gI gN iN dr es of od pl hd tk kn li pa ins cm fd hr) → va_S A s.heap H locs → lv_has ls 4 [(0, .ref (h 7)), (1, .int x1), (2, .int x2), (3, .int x3)] → W p l e (headSpec ws_J_fill { frames := 0, cells := 0, slots := 0, locals := 0 }).room s m args below meth c H locs 0 0 Q (F0 m 5 ls []) := by
    intro k_5
    induction k_5 with
    | zero => intro _ _ _ _ _ _ _ hf; exact absurd hf (by simp [f_J_fill7_5])
    | succ k_5 ih_5 =>
      intro tk x1 x2 x3 H locs ls hf hP hD hS hl
      rw [f_J_fill7_5] at hf
      refine lv_iload_n hx hb d_J_fill_5 rfl (lv_at hl 2 rfl) ?_
      refine lv_iload_n hx hb d_J_fill_6 rfl (lv_at hl 3 rfl) ?_
      refine lv_icmp_ge (tgt := 20) hx hb d_J_fill_7 (by decide) (fun c_1 => ?_) (fun c_1 => ?_)
      · have hf := ite_t c_1 hf
        cases hf
        exact hret _ _ _ _ hP hD hS d_J_fill_20
      · have hf := ite_f c_1 hf
        refine lv_aload_n hx hb d_J_fill_10 rfl (lv_at hl 0 rfl) ?_
        refine lv_iload_n hx hb d_J_fill_11 rfl (lv_at hl 2 rfl) ?_
        refine lv_iload_n hx hb d_J_fill_12 rfl (lv_at hl 1 rfl) ?_
        obtain ⟨c_2, hf⟩ := gd_s hf
        refine va_iast (i := x2) (x := x1) hx hb hK hP hD hS 7 0 rfl rfl c_2 d_J_fill_13 (fun H locs hP hD hS => ?_)
        obtain ⟨tk_3, etk_3, hf⟩ := lt1_s hf
        have hP : va_P (dC, dI) clAll (wC h cI cL NW bk sz wd mb gB gI gN iN dr es of od pl hd tk_3 kn li pa ins cm fd hr) H := etk_3 ▸ hP
        have hD : va_D A (wC h cI cL NW bk sz wd mb gB gI gN iN dr es of od pl hd tk_3 kn li pa ins cm fd hr) := etk_3 ▸ hD
        obtain ⟨v2_4, ev2_4, hf⟩ := lt1_s hf
        refine lv_iinc (v := v2_4) (lv' := [(2, .int v2_4), (0, .ref (h 7)), (1, .int x1), (3, .int x3)]) hx hb d_J_fill_14 hl (k := 2) rfl (by rw [← ev2_4]; rfl) (by decide) rfl (fun ls hl => ?_)
        refine lv_goto (tgt := 5) hx hb d_J_fill_17 (by decide) ?_
        exact ih_5 tk_3 x1 v2_4 x3 _ _ _ hf hP hD hS (lv_sub hl [1, 2, 0, 3] rfl)
  unfold f_J_fill7 at hf
  refine lv_iconst (v := 0) hx hb d_J_fill_0 (by decide) ?_
  refine lv_istore_n (lv' := [(2, .int ((0 : Int32))), (0, .ref (h 7)), (1, .int a1)]) hx hb d_J_fill_1 rfl hl (by decide) rfl (fun ls hl => ?_)
  refine lv_aload_n hx hb d_J_fill_2 rfl (lv_at hl 1 rfl) ?_
  refine va_alen (v := (512 : Int32)) hx hb hK hP 7 0 rfl rfl rfl d_J_fill_3 ?_
  refine lv_istore_n (lv' := [(3, .int ((512 : Int32))), (2, .int ((0 : Int32))), (0, .ref (h 7)), (1, .int a1)]) hx hb d_J_fill_4 rfl hl (by decide) rfl (fun ls hl => ?_)
  exact hj_5 N tk a1 ((0 : Int32)) ((512 : Int32)) _ _ _ hf hP hD hS (lv_sub hl [2, 3, 1, 0] rfl)
set_option maxHeartbeats 4000000 in
set_option maxRecDepth 100000 in
theorem c_J_fill8 {l : Launch} {dC : Nat → ClassId} {dI : Nat → Nat → Nat} {N : Nat} {h : Nat → Nat} {cI : ClassId} {cL : ClassId} {NW : Nat} {bk : Int32} {sz : Int32} {wd : Nat → Int64} {mb : Nat → Int32} {gB : Int32} {gI : Int32} {gN : Int32} {iN : Int32} {dr : Int32} {es : Int64} {of : Int64} {od : Int32} {pl : Int64} {hd : Int64} {tk : Nat → Int32} {kn : Nat → Int32} {li : Nat → Int32} {pa : Nat → Int32} {ins : Nat → Int32} {cm : Int32} {fd : Int32} {hr : Int32} {hs : Nat} {a1 : Int32} {kn' : Nat → Int32} (hf : f_J_fill8 N NW kn a1 = some (kn')) : Met l y_J_fill ws_J_fill { frames := 0, cells := 0, slots := 0, locals := 0 } (PcU (dC, dI) clAll [(cI, .int), (cL, .long)] (wC h cI cL NW bk sz wd mb gB gI gN iN dr es of od pl hd tk kn li pa ins cm fd hr) hs [.ref (h 8), .int a1]) (QUv (dC, dI) clAll [(cI, .int), (cL, .long)] (wC h cI cL NW bk sz wd mb gB gI gN iN dr es of od pl hd tk kn li pa ins cm fd hr) (wC h cI cL NW bk sz wd mb gB gI gN iN dr es of od pl hd tk kn' li pa ins cm fd hr) hs) 0 0 (va_A (wC h cI cL NW bk sz wd mb gB gI gN iN dr es of od pl hd tk kn li pa ins cm fd hr) hs) := by
  refine mUv (cc := b_J_fill) (maxL := 4) (by decide) rfl (Nat.le_of_ble_eq_true rfl) ?_
  intro p e s m args below meth c Q hx hb hml hts hown A hA hK hP hD hS hret ls hl
  have htb : ∀ w ∈ TB, w.before args s = true := fun w h => hts w (List.mem_cons_of_mem _ h)
  have hl : lv_has ls 4 [(0, .ref (h 8)), (1, .int a1)] := hl
  have hj_5 : ∀ (k_5 : Nat) (kn : Nat → Int32) (x1 : Int32) (x2 : Int32) (x3 : Int32) (H : Heap) (locs : List Loc) (ls : Array Slot), f_J_fill8_5 N NW k_5 kn x1 x2 x3 = some (kn') → va_P (dC, dI) clAll (wC h cI cL NW bk sz wd mb gB gI gN iN dr es of od pl hd tk kn li pa ins cm fd hr) H → va_D A (wC h cI cL NW bk sz wd mb gB gI gN iN dr es of od pl hd tk kn li pa ins cm fd hr) → va_S A s.heap H locs → lv_has ls 4 [(0, .ref (h 8)), (1, .int x1), (2, .int x2), (3, .int x3)] → W p l e (headSpec ws_J_fill { frames := 0, cells := 0, slots := 0, locals := 0 }).room s m args below meth c H locs 0 0 Q (F0 m 5 ls []) := by
    intro k_5
    induction k_5 with
    | zero => intro _ _ _ _ _ _ _ hf; exact absurd hf (by simp [f_J_fill8_5])
    | succ k_5 ih_5 =>
      intro kn x1 x2 x3 H locs ls hf hP hD hS hl
      rw [f_J_fill8_5] at hf
      refine lv_iload_n hx hb d_J_fill_5 rfl (lv_at hl 2 rfl) ?_
      refine lv_iload_n hx hb d_J_fill_6 rfl (lv_at hl 3 rfl) ?_
      refine lv_icmp_ge (tgt := 20) hx hb d_J_fill_7 (by decide) (fun c_1 => ?_) (fun c_1 => ?_)
      · have hf := ite_t c_1 hf
        cases hf
        exact hret _ _ _ _ hP hD hS d_J_fill_20
      · have hf := ite_f c_1 hf
        refine lv_aload_n hx hb d_J_fill_10 rfl (lv_at hl 0 rfl) ?_
        refine lv_iload_n hx hb d_J_fill_11 rfl (lv_at hl 2 rfl) ?_
        refine lv_iload_n hx hb d_J_fill_12 rfl (lv_at hl 1 rfl) ?_
        obtain ⟨c_2, hf⟩ := gd_s hf
        refine va_iast (i := x2) (x := x1) hx hb hK hP hD hS 8 0 rfl rfl c_2 d_J_fill_13 (fun H locs hP hD hS => ?_)
        obtain ⟨kn_3, ekn_3, hf⟩ := lt1_s hf
        have hP : va_P (dC, dI) clAll (wC h cI cL NW bk sz wd mb gB gI gN iN dr es of od pl hd tk kn_3 li pa ins cm fd hr) H := ekn_3 ▸ hP
        have hD : va_D A (wC h cI cL NW bk sz wd mb gB gI gN iN dr es of od pl hd tk kn_3 li pa ins cm fd hr) := ekn_3 ▸ hD
        obtain ⟨v2_4, ev2_4, hf⟩ := lt1_s hf
        refine lv_iinc (v := v2_4) (lv' := [(2, .int v2_4), (0, .ref (h 8)), (1, .int x1), (3, .int x3)]) hx hb d_J_fill_14 hl (k := 2) rfl (by rw [← ev2_4]; rfl) (by decide) rfl (fun ls hl => ?_)
        refine lv_goto (tgt := 5) hx hb d_J_fill_17 (by decide) ?_
        exact ih_5 kn_3 x1 v2_4 x3 _ _ _ hf hP hD hS (lv_sub hl [1, 2, 0, 3] rfl)
  unfold f_J_fill8 at hf
  refine lv_iconst (v := 0) hx hb d_J_fill_0 (by decide) ?_
  refine lv_istore_n (lv' := [(2, .int ((0 : Int32))), (0, .ref (h 8)), (1, .int a1)]) hx hb d_J_fill_1 rfl hl (by decide) rfl (fun ls hl => ?_)
  refine lv_aload_n hx hb d_J_fill_2 rfl (lv_at hl 1 rfl) ?_
  refine va_alen (v := (4097 : Int32)) hx hb hK hP 8 0 rfl rfl rfl d_J_fill_3 ?_
  refine lv_istore_n (lv' := [(3, .int ((4097 : Int32))), (2, .int ((0 : Int32))), (0, .ref (h 8)), (1, .int a1)]) hx hb d_J_fill_4 rfl hl (by decide) rfl (fun ls hl => ?_)
  exact hj_5 N kn a1 ((0 : Int32)) ((4097 : Int32)) _ _ _ hf hP hD hS (lv_sub hl [2, 3, 1, 0] rfl)
set_option maxHeartbeats 4000000 in
set_option maxRecDepth 100000 in
theorem c_S_forget {l : Launch} {dC : Nat → ClassId} {dI : Nat → Nat → Nat} {h : Nat → Nat} {cI : ClassId} {cL : ClassId} {NW : Nat} {bk : Int32} {sz : Int32} {wd : Nat → Int64} {mb : Nat → Int32} {gB : Int32} {gI : Int32} {gN : Int32} {iN : Int32} {dr : Int32} {es : Int64} {of : Int64} {od : Int32} {pl : Int64} {hd : Int64} {tk : Nat → Int32} {kn : Nat → Int32} {li : Nat → Int32} {pa : Nat → Int32} {ins : Nat → Int32} {cm : Int32} {fd : Int32} {hr : Int32} {hs : Nat} {fd' : Int32} (hf : f_S_forget NW fd = some (fd')) : Met l y_S_forget ws_S_forget { frames := 0, cells := 0, slots := 0, locals := 0 } (PcU (dC, dI) clAll [(cI, .int), (cL, .long)] (wC h cI cL NW bk sz wd mb gB gI gN iN dr es of od pl hd tk kn li pa ins cm fd hr) hs [.ref (h 6)]) (QUv (dC, dI) clAll [(cI, .int), (cL, .long)] (wC h cI cL NW bk sz wd mb gB gI gN iN dr es of od pl hd tk kn li pa ins cm fd hr) (wC h cI cL NW bk sz wd mb gB gI gN iN dr es of od pl hd tk kn li pa ins cm fd' hr) hs) 0 0 (va_A (wC h cI cL NW bk sz wd mb gB gI gN iN dr es of od pl hd tk kn li pa ins cm fd hr) hs) := by
  refine mUv (cc := b_S_forget) (maxL := 1) (by decide) rfl (Nat.le_of_ble_eq_true rfl) ?_
  intro p e s m args below meth c Q hx hb hml hts hown A hA hK hP hD hS hret ls hl
  have htb : ∀ w ∈ TB, w.before args s = true := fun w h => hts w (List.mem_cons_of_mem _ h)
  have hl : lv_has ls 1 [(0, .ref (h 6))] := hl
  unfold f_S_forget at hf
  refine lv_aload_n hx hb d_S_forget_0 rfl (lv_at hl 0 rfl) ?_
  refine lv_iconst (v := -1) hx hb d_S_forget_1 (by decide) ?_
  refine va_put (D := (dC, dI)) (ci := 3) (v := .int ((-1 : Int32))) (ty := .int) (C := R_S) (T := T_S) (N := 10) hx hb htb in_S ty_S tyok_S nm_S hown hK hP hD hS 6 rfl rfl 9 (by decide) (htb _ tw_185) (fun _ h9 => h9) rfl (by decide +kernel) rfl rfl (Nat.le_of_ble_eq_true rfl) d_S_forget_2 (fun H locs hP hD hS => ?_)
  have hP : va_P (dC, dI) clAll (wC h cI cL NW bk sz wd mb gB gI gN iN dr es of od pl hd tk kn li pa ins cm ((-1 : Int32)) hr) H := hP
  have hD : va_D A (wC h cI cL NW bk sz wd mb gB gI gN iN dr es of od pl hd tk kn li pa ins cm ((-1 : Int32)) hr) := hD
  cases hf
  exact hret _ _ _ _ hP hD hS d_S_forget_5
set_option maxHeartbeats 4000000 in
set_option maxRecDepth 100000 in
theorem c_S_superblockHas {l : Launch} {dC : Nat → ClassId} {dI : Nat → Nat → Nat} {h : Nat → Nat} {cI : ClassId} {cL : ClassId} {NW : Nat} {bk : Int32} {sz : Int32} {wd : Nat → Int64} {mb : Nat → Int32} {gB : Int32} {gI : Int32} {gN : Int32} {iN : Int32} {dr : Int32} {es : Int64} {of : Int64} {od : Int32} {pl : Int64} {hd : Int64} {tk : Nat → Int32} {kn : Nat → Int32} {li : Nat → Int32} {pa : Nat → Int32} {ins : Nat → Int32} {cm : Int32} {fd : Int32} {hr : Int32} {hs : Nat} {a1 : Int32} {a2 : Int32} {a3 : Int64} {r : Int32} (hf : f_S_superblockHas NW sz wd a1 a2 a3 = some (r)) : Met l y_S_superblockHas ws_S_superblockHas { frames := 1, cells := 0, slots := 0, locals := 27 } (PcU (dC, dI) clAll [(cI, .int), (cL, .long)] (wC h cI cL NW bk sz wd mb gB gI gN iN dr es of od pl hd tk kn li pa ins cm fd hr) hs [.ref (h 6), .int a1, .int a2, .long a3]) (QUi (dC, dI) clAll [(cI, .int), (cL, .long)] (wC h cI cL NW bk sz wd mb gB gI gN iN dr es of od pl hd tk kn li pa ins cm fd hr) (wC h cI cL NW bk sz wd mb gB gI gN iN dr es of od pl hd tk kn li pa ins cm fd hr) hs r) 0 0 (va_A (wC h cI cL NW bk sz wd mb gB gI gN iN dr es of od pl hd tk kn li pa ins cm fd hr) hs) := by
  refine mUz (cc := b_S_superblockHas) (maxL := 5) (by decide) rfl (Nat.le_of_ble_eq_true rfl) ?_
  intro p e s m args below meth c Q hx hb hml hts hown A hA hK hP hD hS hret ls hl
  have htb : ∀ w ∈ TB, w.before args s = true := fun w h => hts w (List.mem_cons_of_mem _ h)
  have hl : lv_has ls 5 [(0, .ref (h 6)), (1, .int a1), (2, .int a2), (3, .long a3)] := hl
  unfold f_S_superblockHas at hf
  refine lv_aload_n hx hb d_S_superblockHas_0 rfl (lv_at hl 0 rfl) ?_
  refine va_get (D := (dC, dI)) (ci := 3) (v := .ref (h 1)) (C := R_S) (T := T_S) (N := 10) hx hb htb in_S hown hK hP 6 rfl rfl 0 (by decide) (htb _ tw_176) (fun _ h9 => h9) rfl d_S_superblockHas_1 ?_
  refine lv_sipush (v := 1024) hx hb d_S_superblockHas_4 (by decide) ?_
  refine lv_iload_n hx hb d_S_superblockHas_7 rfl (lv_at hl 1 rfl) ?_
  refine lv_iadd hx hb d_S_superblockHas_8 ?_
  refine lv_i2l hx hb d_S_superblockHas_9 rfl ?_
  refine lv_iload_n hx hb d_S_superblockHas_10 rfl (lv_at hl 2 rfl) ?_
  obtain ⟨r_1, hc_2, hf⟩ := bd1_s hf
  refine ucVl (As := [.long (Int32.toInt64 (((1024 : Int32)) + a1)), .int a2]) (rest := []) ⟨hx, hb, hml, hown, htb⟩ hK hP hD hS hA (fun hs => c_D_number hc_2) (cwV 2 htb (gV tw_308 tw_264 tw_265 tw_69 tw_266) rfl rfl rfl (by decide +kernel) ⟨Nat.le_of_ble_eq_true rfl, Nat.le_of_ble_eq_true rfl⟩) 1 0 rfl rfl rfl rfl rfl hl.1 (Nat.le_of_ble_eq_true rfl) d_S_superblockHas_11 ⟨Nat.zero_le _, Nat.zero_le _⟩ (fun H locs hP hD hS => ?_)
  refine lv_lload_n hx hb d_S_superblockHas_14 rfl (lv_at hl 3 rfl) ?_
  refine lc_ne (tgt := 23) hx hb d_S_superblockHas_15 d_S_superblockHas_16 (by decide) (fun c_3 => ?_) (fun c_3 => ?_)
  · have hf := ite_f c_3 hf
    refine lv_iconst (v := 0) hx hb d_S_superblockHas_23 (by decide) ?_
    cases hf
    exact hret _ _ _ _ (Or.inl rfl) hP hD hS d_S_superblockHas_24
  · have hf := ite_t c_3 hf
    refine lv_iconst (v := 1) hx hb d_S_superblockHas_19 (by decide) ?_
    refine lv_goto (tgt := 24) hx hb d_S_superblockHas_20 (by decide) ?_
    cases hf
    exact hret _ _ _ _ (Or.inr rfl) hP hD hS d_S_superblockHas_24
set_option maxHeartbeats 4000000 in
set_option maxRecDepth 100000 in
theorem c_S_superblockStands {l : Launch} {dC : Nat → ClassId} {dI : Nat → Nat → Nat} {h : Nat → Nat} {cI : ClassId} {cL : ClassId} {NW : Nat} {bk : Int32} {sz : Int32} {wd : Nat → Int64} {mb : Nat → Int32} {gB : Int32} {gI : Int32} {gN : Int32} {iN : Int32} {dr : Int32} {es : Int64} {of : Int64} {od : Int32} {pl : Int64} {hd : Int64} {tk : Nat → Int32} {kn : Nat → Int32} {li : Nat → Int32} {pa : Nat → Int32} {ins : Nat → Int32} {cm : Int32} {fd : Int32} {hr : Int32} {hs : Nat} {r : Int32} {gB' : Int32} {gI' : Int32} {gN' : Int32} {iN' : Int32} (hf : f_S_superblockStands NW bk sz wd gB gI gN iN = some (r, gB', gI', gN', iN')) : Met l y_S_superblockStands ws_S_superblockStands { frames := 2, cells := 0, slots := 0, locals := 51 } (PcU (dC, dI) clAll [(cI, .int), (cL, .long)] (wC h cI cL NW bk sz wd mb gB gI gN iN dr es of od pl hd tk kn li pa ins cm fd hr) hs [.ref (h 6)]) (QUi (dC, dI) clAll [(cI, .int), (cL, .long)] (wC h cI cL NW bk sz wd mb gB gI gN iN dr es of od pl hd tk kn li pa ins cm fd hr) (wC h cI cL NW bk sz wd mb gB' gI' gN' iN' dr es of od pl hd tk kn li pa ins cm fd hr) hs r) 0 0 (va_A (wC h cI cL NW bk sz wd mb gB gI gN iN dr es of od pl hd tk kn li pa ins cm fd hr) hs) := by
  refine mUz (cc := b_S_superblockStands) (maxL := 1) (by decide) rfl (Nat.le_of_ble_eq_true rfl) ?_
  intro p e s m args below meth c Q hx hb hml hts hown A hA hK hP hD hS hret ls hl
  have htb : ∀ w ∈ TB, w.before args s = true := fun w h => hts w (List.mem_cons_of_mem _ h)
  have hl : lv_has ls 1 [(0, .ref (h 6))] := hl
  unfold f_S_superblockStands at hf
  refine lv_aload_n hx hb d_S_superblockStands_0 rfl (lv_at hl 0 rfl) ?_
  refine va_get (D := (dC, dI)) (ci := 3) (v := .ref (h 3)) (C := R_S) (T := T_S) (N := 10) hx hb htb in_S hown hK hP 6 rfl rfl 1 (by decide) (htb _ tw_177) (fun _ h9 => h9) rfl d_S_superblockStands_1 ?_
  obtain ⟨r_1, gB_2, gI_3, gN_4, iN_5, hc_6, hf⟩ := bd5_s hf
  refine ucVi (As := []) (rest := []) ⟨hx, hb, hml, hown, htb⟩ hK hP hD hS hA (fun hs => c_L_readGroups hc_6) (cwV 0 htb (gV tw_284 tw_285 tw_286 tw_71 tw_287) rfl rfl rfl (by decide +kernel) ⟨Nat.le_of_ble_eq_true rfl, Nat.le_of_ble_eq_true rfl⟩) 3 2 rfl rfl rfl rfl rfl hl.1 (Nat.le_of_ble_eq_true rfl) d_S_superblockStands_4 ⟨Nat.zero_le _, Nat.zero_le _⟩ (fun H locs hP hD hS => ?_)
  refine lv_if_eq (tgt := 173) hx hb d_S_superblockStands_7 (by decide) (fun c_7 => ?_) (fun c_7 => ?_)
  · have hf := ite_t c_7 hf
    refine lv_iconst (v := 0) hx hb d_S_superblockStands_173 (by decide) ?_
    cases hf
    exact hret _ _ _ _ (Or.inl rfl) hP hD hS d_S_superblockStands_174
  · have hf := ite_f c_7 hf
    refine lv_aload_n hx hb d_S_superblockStands_10 rfl (lv_at hl 0 rfl) ?_
    refine lv_iconst (v := 0) hx hb d_S_superblockStands_11 (by decide) ?_
    refine lv_iconst (v := 4) hx hb d_S_superblockStands_12 (by decide) ?_
    refine lv_aload_n hx hb d_S_superblockStands_13 rfl (lv_at hl 0 rfl) ?_
    refine va_get (D := (dC, dI)) (ci := 3) (v := .ref (h 3)) (C := R_S) (T := T_S) (N := 10) hx hb htb in_S hown hK hP 6 rfl rfl 1 (by decide) (htb _ tw_177) (fun _ h9 => h9) rfl d_S_superblockStands_14 ?_
    obtain ⟨r_8, hc_9, hf⟩ := bd1_s hf
    refine ucVi (As := []) (rest := [.int ((4 : Int32)), .int ((0 : Int32)), .ref (h 6)]) ⟨hx, hb, hml, hown, htb⟩ hK hP hD hS hA (fun hs => c_L_inodes hc_9) (cwV 0 htb (gV tw_300 tw_301 tw_302 tw_71 tw_303) rfl rfl rfl (by decide +kernel) ⟨Nat.le_of_ble_eq_true rfl, Nat.le_of_ble_eq_true rfl⟩) 3 2 rfl rfl rfl rfl rfl hl.1 (Nat.le_of_ble_eq_true rfl) d_S_superblockStands_17 ⟨Nat.zero_le _, Nat.zero_le _⟩ (fun H locs hP hD hS => ?_)
    refine lv_i2l hx hb d_S_superblockStands_20 rfl ?_
    obtain ⟨r_10, hc_11, hf⟩ := bd1_s hf
    refine ucVi (As := [.int ((0 : Int32)), .int ((4 : Int32)), .long (Int32.toInt64 r_8)]) (rest := []) ⟨hx, hb, hml, hown, htb⟩ hK hP hD hS hA (fun hs => c_S_superblockHas hc_11) (cwV 3 htb (gV tw_304 tw_306 tw_2 tw_73 tw_307) rfl rfl rfl (by decide +kernel) ⟨Nat.le_of_ble_eq_true rfl, Nat.le_of_ble_eq_true rfl⟩) 6 3 rfl rfl rfl rfl rfl hl.1 (Nat.le_of_ble_eq_true rfl) d_S_superblockStands_21 ⟨Nat.zero_le _, Nat.zero_le _⟩ (fun H locs hP hD hS => ?_)
    refine lv_if_eq (tgt := 173) hx hb d_S_superblockStands_24 (by decide) (fun c_12 => ?_) (fun c_12 => ?_)
    · have hf := ite_t c_12 hf
      refine lv_iconst (v := 0) hx hb d_S_superblockStands_173 (by decide) ?_
      cases hf
      exact hret _ _ _ _ (Or.inl rfl) hP hD hS d_S_superblockStands_174
    · have hf := ite_f c_12 hf
      refine lv_aload_n hx hb d_S_superblockStands_27 rfl (lv_at hl 0 rfl) ?_
      refine lv_iconst (v := 4) hx hb d_S_superblockStands_28 (by decide) ?_
      refine lv_iconst (v := 4) hx hb d_S_superblockStands_29 (by decide) ?_
      refine lv_aload_n hx hb d_S_superblockStands_30 rfl (lv_at hl 0 rfl) ?_
      refine va_get (D := (dC, dI)) (ci := 3) (v := .ref (h 1)) (C := R_S) (T := T_S) (N := 10) hx hb htb in_S hown hK hP 6 rfl rfl 0 (by decide) (htb _ tw_176) (fun _ h9 => h9) rfl d_S_superblockStands_31 ?_
      obtain ⟨r_13, hc_14, hf⟩ := bd1_s hf
      refine ucVi (As := []) (rest := [.int ((4 : Int32)), .int ((4 : Int32)), .ref (h 6)]) ⟨hx, hb, hml, hown, htb⟩ hK hP hD hS hA (fun hs => c_D_blocks hc_14) (cwV 0 htb (gV tw_309 tw_297 tw_298 tw_69 tw_299) rfl rfl rfl (by decide +kernel) ⟨Nat.le_of_ble_eq_true rfl, Nat.le_of_ble_eq_true rfl⟩) 1 0 rfl rfl rfl rfl rfl hl.1 (Nat.le_of_ble_eq_true rfl) d_S_superblockStands_34 ⟨Nat.zero_le _, Nat.zero_le _⟩ (fun H locs hP hD hS => ?_)
      refine lv_i2l hx hb d_S_superblockStands_37 rfl ?_
      obtain ⟨r_15, hc_16, hf⟩ := bd1_s hf
      refine ucVi (As := [.int ((4 : Int32)), .int ((4 : Int32)), .long (Int32.toInt64 r_13)]) (rest := []) ⟨hx, hb, hml, hown, htb⟩ hK hP hD hS hA (fun hs => c_S_superblockHas hc_16) (cwV 3 htb (gV tw_304 tw_306 tw_2 tw_73 tw_307) rfl rfl rfl (by decide +kernel) ⟨Nat.le_of_ble_eq_true rfl, Nat.le_of_ble_eq_true rfl⟩) 6 3 rfl rfl rfl rfl rfl hl.1 (Nat.le_of_ble_eq_true rfl) d_S_superblockStands_38 ⟨Nat.zero_le _, Nat.zero_le _⟩ (fun H locs hP hD hS => ?_)
      refine lv_if_eq (tgt := 173) hx hb d_S_superblockStands_41 (by decide) (fun c_17 => ?_) (fun c_17 => ?_)
      · have hf := ite_t c_17 hf
        refine lv_iconst (v := 0) hx hb d_S_superblockStands_173 (by decide) ?_
        cases hf
        exact hret _ _ _ _ (Or.inl rfl) hP hD hS d_S_superblockStands_174
      · have hf := ite_f c_17 hf
        refine lv_aload_n hx hb d_S_superblockStands_44 rfl (lv_at hl 0 rfl) ?_
        refine lv_bipush (v := 20) hx hb d_S_superblockStands_45 (by decide) ?_
        refine lv_iconst (v := 4) hx hb d_S_superblockStands_47 (by decide) ?_
        refine lv_lconst (v := 1) hx hb d_S_superblockStands_48 (by decide) ?_
        obtain ⟨r_18, hc_19, hf⟩ := bd1_s hf
        refine ucVi (As := [.int ((20 : Int32)), .int ((4 : Int32)), .long ((1 : Int64))]) (rest := []) ⟨hx, hb, hml, hown, htb⟩ hK hP hD hS hA (fun hs => c_S_superblockHas hc_19) (cwV 3 htb (gV tw_304 tw_306 tw_2 tw_73 tw_307) rfl rfl rfl (by decide +kernel) ⟨Nat.le_of_ble_eq_true rfl, Nat.le_of_ble_eq_true rfl⟩) 6 3 rfl rfl rfl rfl rfl hl.1 (Nat.le_of_ble_eq_true rfl) d_S_superblockStands_49 ⟨Nat.zero_le _, Nat.zero_le _⟩ (fun H locs hP hD hS => ?_)
        refine lv_if_eq (tgt := 173) hx hb d_S_superblockStands_52 (by decide) (fun c_20 => ?_) (fun c_20 => ?_)
        · have hf := ite_t c_20 hf
          refine lv_iconst (v := 0) hx hb d_S_superblockStands_173 (by decide) ?_
          cases hf
          exact hret _ _ _ _ (Or.inl rfl) hP hD hS d_S_superblockStands_174
        · have hf := ite_f c_20 hf
          refine lv_aload_n hx hb d_S_superblockStands_55 rfl (lv_at hl 0 rfl) ?_
          refine lv_bipush (v := 24) hx hb d_S_superblockStands_56 (by decide) ?_
          refine lv_iconst (v := 4) hx hb d_S_superblockStands_58 (by decide) ?_
          refine lv_lconst (v := 0) hx hb d_S_superblockStands_59 (by decide) ?_
          obtain ⟨r_21, hc_22, hf⟩ := bd1_s hf
          refine ucVi (As := [.int ((24 : Int32)), .int ((4 : Int32)), .long ((0 : Int64))]) (rest := []) ⟨hx, hb, hml, hown, htb⟩ hK hP hD hS hA (fun hs => c_S_superblockHas hc_22) (cwV 3 htb (gV tw_304 tw_306 tw_2 tw_73 tw_307) rfl rfl rfl (by decide +kernel) ⟨Nat.le_of_ble_eq_true rfl, Nat.le_of_ble_eq_true rfl⟩) 6 3 rfl rfl rfl rfl rfl hl.1 (Nat.le_of_ble_eq_true rfl) d_S_superblockStands_60 ⟨Nat.zero_le _, Nat.zero_le _⟩ (fun H locs hP hD hS => ?_)
          refine lv_if_eq (tgt := 173) hx hb d_S_superblockStands_63 (by decide) (fun c_23 => ?_) (fun c_23 => ?_)
          · have hf := ite_t c_23 hf
            refine lv_iconst (v := 0) hx hb d_S_superblockStands_173 (by decide) ?_
            cases hf
            exact hret _ _ _ _ (Or.inl rfl) hP hD hS d_S_superblockStands_174
          · have hf := ite_f c_23 hf
            refine lv_aload_n hx hb d_S_superblockStands_66 rfl (lv_at hl 0 rfl) ?_
            refine lv_bipush (v := 36) hx hb d_S_superblockStands_67 (by decide) ?_
            refine lv_iconst (v := 4) hx hb d_S_superblockStands_69 (by decide) ?_
            refine lv_aload_n hx hb d_S_superblockStands_70 rfl (lv_at hl 0 rfl) ?_
            refine va_get (D := (dC, dI)) (ci := 3) (v := .ref (h 3)) (C := R_S) (T := T_S) (N := 10) hx hb htb in_S hown hK hP 6 rfl rfl 1 (by decide) (htb _ tw_177) (fun _ h9 => h9) rfl d_S_superblockStands_71 ?_
            obtain ⟨r_24, hc_25, hf⟩ := bd1_s hf
            refine ucVi (As := []) (rest := [.int ((4 : Int32)), .int ((36 : Int32)), .ref (h 6)]) ⟨hx, hb, hml, hown, htb⟩ hK hP hD hS hA (fun hs => c_L_groupBlocks hc_25) (cwV 0 htb (gV tw_310 tw_311 tw_312 tw_71 tw_313) rfl rfl rfl (by decide +kernel) ⟨Nat.le_of_ble_eq_true rfl, Nat.le_of_ble_eq_true rfl⟩) 3 2 rfl rfl rfl rfl rfl hl.1 (Nat.le_of_ble_eq_true rfl) d_S_superblockStands_74 ⟨Nat.zero_le _, Nat.zero_le _⟩ (fun H locs hP hD hS => ?_)
            refine lv_i2l hx hb d_S_superblockStands_77 rfl ?_
            obtain ⟨r_26, hc_27, hf⟩ := bd1_s hf
            refine ucVi (As := [.int ((36 : Int32)), .int ((4 : Int32)), .long (Int32.toInt64 r_24)]) (rest := []) ⟨hx, hb, hml, hown, htb⟩ hK hP hD hS hA (fun hs => c_S_superblockHas hc_27) (cwV 3 htb (gV tw_304 tw_306 tw_2 tw_73 tw_307) rfl rfl rfl (by decide +kernel) ⟨Nat.le_of_ble_eq_true rfl, Nat.le_of_ble_eq_true rfl⟩) 6 3 rfl rfl rfl rfl rfl hl.1 (Nat.le_of_ble_eq_true rfl) d_S_superblockStands_78 ⟨Nat.zero_le _, Nat.zero_le _⟩ (fun H locs hP hD hS => ?_)
            refine lv_if_eq (tgt := 173) hx hb d_S_superblockStands_81 (by decide) (fun c_28 => ?_) (fun c_28 => ?_)
            · have hf := ite_t c_28 hf
              refine lv_iconst (v := 0) hx hb d_S_superblockStands_173 (by decide) ?_
              cases hf
              exact hret _ _ _ _ (Or.inl rfl) hP hD hS d_S_superblockStands_174
            · have hf := ite_f c_28 hf
              refine lv_aload_n hx hb d_S_superblockStands_84 rfl (lv_at hl 0 rfl) ?_
              refine lv_bipush (v := 56) hx hb d_S_superblockStands_85 (by decide) ?_
              refine lv_iconst (v := 2) hx hb d_S_superblockStands_87 (by decide) ?_
              refine lv_ldc2 (v := 61267) hx hb hown (htb _ tw_314) d_S_superblockStands_88 ?_
              obtain ⟨r_29, hc_30, hf⟩ := bd1_s hf
              refine ucVi (As := [.int ((56 : Int32)), .int ((2 : Int32)), .long ((61267 : Int64))]) (rest := []) ⟨hx, hb, hml, hown, htb⟩ hK hP hD hS hA (fun hs => c_S_superblockHas hc_30) (cwV 3 htb (gV tw_304 tw_306 tw_2 tw_73 tw_307) rfl rfl rfl (by decide +kernel) ⟨Nat.le_of_ble_eq_true rfl, Nat.le_of_ble_eq_true rfl⟩) 6 3 rfl rfl rfl rfl rfl hl.1 (Nat.le_of_ble_eq_true rfl) d_S_superblockStands_91 ⟨Nat.zero_le _, Nat.zero_le _⟩ (fun H locs hP hD hS => ?_)
              refine lv_if_eq (tgt := 173) hx hb d_S_superblockStands_94 (by decide) (fun c_31 => ?_) (fun c_31 => ?_)
              · have hf := ite_t c_31 hf
                refine lv_iconst (v := 0) hx hb d_S_superblockStands_173 (by decide) ?_
                cases hf
                exact hret _ _ _ _ (Or.inl rfl) hP hD hS d_S_superblockStands_174
              · have hf := ite_f c_31 hf
                refine lv_aload_n hx hb d_S_superblockStands_97 rfl (lv_at hl 0 rfl) ?_
                refine lv_bipush (v := 58) hx hb d_S_superblockStands_98 (by decide) ?_
                refine lv_iconst (v := 2) hx hb d_S_superblockStands_100 (by decide) ?_
                refine lv_lconst (v := 1) hx hb d_S_superblockStands_101 (by decide) ?_
                obtain ⟨r_32, hc_33, hf⟩ := bd1_s hf
                refine ucVi (As := [.int ((58 : Int32)), .int ((2 : Int32)), .long ((1 : Int64))]) (rest := []) ⟨hx, hb, hml, hown, htb⟩ hK hP hD hS hA (fun hs => c_S_superblockHas hc_33) (cwV 3 htb (gV tw_304 tw_306 tw_2 tw_73 tw_307) rfl rfl rfl (by decide +kernel) ⟨Nat.le_of_ble_eq_true rfl, Nat.le_of_ble_eq_true rfl⟩) 6 3 rfl rfl rfl rfl rfl hl.1 (Nat.le_of_ble_eq_true rfl) d_S_superblockStands_102 ⟨Nat.zero_le _, Nat.zero_le _⟩ (fun H locs hP hD hS => ?_)
                refine lv_if_eq (tgt := 173) hx hb d_S_superblockStands_105 (by decide) (fun c_34 => ?_) (fun c_34 => ?_)
                · have hf := ite_t c_34 hf
                  refine lv_iconst (v := 0) hx hb d_S_superblockStands_173 (by decide) ?_
                  cases hf
                  exact hret _ _ _ _ (Or.inl rfl) hP hD hS d_S_superblockStands_174
                · have hf := ite_f c_34 hf
                  refine lv_aload_n hx hb d_S_superblockStands_108 rfl (lv_at hl 0 rfl) ?_
                  refine lv_bipush (v := 76) hx hb d_S_superblockStands_109 (by decide) ?_
                  refine lv_iconst (v := 4) hx hb d_S_superblockStands_111 (by decide) ?_
                  refine lv_lconst (v := 1) hx hb d_S_superblockStands_112 (by decide) ?_
                  obtain ⟨r_35, hc_36, hf⟩ := bd1_s hf
                  refine ucVi (As := [.int ((76 : Int32)), .int ((4 : Int32)), .long ((1 : Int64))]) (rest := []) ⟨hx, hb, hml, hown, htb⟩ hK hP hD hS hA (fun hs => c_S_superblockHas hc_36) (cwV 3 htb (gV tw_304 tw_306 tw_2 tw_73 tw_307) rfl rfl rfl (by decide +kernel) ⟨Nat.le_of_ble_eq_true rfl, Nat.le_of_ble_eq_true rfl⟩) 6 3 rfl rfl rfl rfl rfl hl.1 (Nat.le_of_ble_eq_true rfl) d_S_superblockStands_113 ⟨Nat.zero_le _, Nat.zero_le _⟩ (fun H locs hP hD hS => ?_)
                  refine lv_if_eq (tgt := 173) hx hb d_S_superblockStands_116 (by decide) (fun c_37 => ?_) (fun c_37 => ?_)
                  · have hf := ite_t c_37 hf
                    refine lv_iconst (v := 0) hx hb d_S_superblockStands_173 (by decide) ?_
                    cases hf
                    exact hret _ _ _ _ (Or.inl rfl) hP hD hS d_S_superblockStands_174
                  · have hf := ite_f c_37 hf
                    refine lv_aload_n hx hb d_S_superblockStands_119 rfl (lv_at hl 0 rfl) ?_
                    refine lv_bipush (v := 84) hx hb d_S_superblockStands_120 (by decide) ?_
                    refine lv_iconst (v := 4) hx hb d_S_superblockStands_122 (by decide) ?_
                    refine lv_ldc2 (v := 11) hx hb hown (htb _ tw_315) d_S_superblockStands_123 ?_
                    obtain ⟨r_38, hc_39, hf⟩ := bd1_s hf
                    refine ucVi (As := [.int ((84 : Int32)), .int ((4 : Int32)), .long ((11 : Int64))]) (rest := []) ⟨hx, hb, hml, hown, htb⟩ hK hP hD hS hA (fun hs => c_S_superblockHas hc_39) (cwV 3 htb (gV tw_304 tw_306 tw_2 tw_73 tw_307) rfl rfl rfl (by decide +kernel) ⟨Nat.le_of_ble_eq_true rfl, Nat.le_of_ble_eq_true rfl⟩) 6 3 rfl rfl rfl rfl rfl hl.1 (Nat.le_of_ble_eq_true rfl) d_S_superblockStands_126 ⟨Nat.zero_le _, Nat.zero_le _⟩ (fun H locs hP hD hS => ?_)
                    refine lv_if_eq (tgt := 173) hx hb d_S_superblockStands_129 (by decide) (fun c_40 => ?_) (fun c_40 => ?_)
                    · have hf := ite_t c_40 hf
                      refine lv_iconst (v := 0) hx hb d_S_superblockStands_173 (by decide) ?_
                      cases hf
                      exact hret _ _ _ _ (Or.inl rfl) hP hD hS d_S_superblockStands_174
                    · have hf := ite_f c_40 hf
                      refine lv_aload_n hx hb d_S_superblockStands_132 rfl (lv_at hl 0 rfl) ?_
                      refine lv_bipush (v := 88) hx hb d_S_superblockStands_133 (by decide) ?_
                      refine lv_iconst (v := 2) hx hb d_S_superblockStands_135 (by decide) ?_
                      refine lv_ldc2 (v := 128) hx hb hown (htb _ tw_316) d_S_superblockStands_136 ?_
                      obtain ⟨r_41, hc_42, hf⟩ := bd1_s hf
                      refine ucVi (As := [.int ((88 : Int32)), .int ((2 : Int32)), .long ((128 : Int64))]) (rest := []) ⟨hx, hb, hml, hown, htb⟩ hK hP hD hS hA (fun hs => c_S_superblockHas hc_42) (cwV 3 htb (gV tw_304 tw_306 tw_2 tw_73 tw_307) rfl rfl rfl (by decide +kernel) ⟨Nat.le_of_ble_eq_true rfl, Nat.le_of_ble_eq_true rfl⟩) 6 3 rfl rfl rfl rfl rfl hl.1 (Nat.le_of_ble_eq_true rfl) d_S_superblockStands_139 ⟨Nat.zero_le _, Nat.zero_le _⟩ (fun H locs hP hD hS => ?_)
                      refine lv_if_eq (tgt := 173) hx hb d_S_superblockStands_142 (by decide) (fun c_43 => ?_) (fun c_43 => ?_)
                      · have hf := ite_t c_43 hf
                        refine lv_iconst (v := 0) hx hb d_S_superblockStands_173 (by decide) ?_
                        cases hf
                        exact hret _ _ _ _ (Or.inl rfl) hP hD hS d_S_superblockStands_174
                      · have hf := ite_f c_43 hf
                        refine lv_aload_n hx hb d_S_superblockStands_145 rfl (lv_at hl 0 rfl) ?_
                        refine lv_bipush (v := 90) hx hb d_S_superblockStands_146 (by decide) ?_
                        refine lv_iconst (v := 2) hx hb d_S_superblockStands_148 (by decide) ?_
                        refine lv_lconst (v := 0) hx hb d_S_superblockStands_149 (by decide) ?_
                        obtain ⟨r_44, hc_45, hf⟩ := bd1_s hf
                        refine ucVi (As := [.int ((90 : Int32)), .int ((2 : Int32)), .long ((0 : Int64))]) (rest := []) ⟨hx, hb, hml, hown, htb⟩ hK hP hD hS hA (fun hs => c_S_superblockHas hc_45) (cwV 3 htb (gV tw_304 tw_306 tw_2 tw_73 tw_307) rfl rfl rfl (by decide +kernel) ⟨Nat.le_of_ble_eq_true rfl, Nat.le_of_ble_eq_true rfl⟩) 6 3 rfl rfl rfl rfl rfl hl.1 (Nat.le_of_ble_eq_true rfl) d_S_superblockStands_150 ⟨Nat.zero_le _, Nat.zero_le _⟩ (fun H locs hP hD hS => ?_)
                        refine lv_if_eq (tgt := 173) hx hb d_S_superblockStands_153 (by decide) (fun c_46 => ?_) (fun c_46 => ?_)
                        · have hf := ite_t c_46 hf
                          refine lv_iconst (v := 0) hx hb d_S_superblockStands_173 (by decide) ?_
                          cases hf
                          exact hret _ _ _ _ (Or.inl rfl) hP hD hS d_S_superblockStands_174
                        · have hf := ite_f c_46 hf
                          refine lv_aload_n hx hb d_S_superblockStands_156 rfl (lv_at hl 0 rfl) ?_
                          refine lv_bipush (v := 96) hx hb d_S_superblockStands_157 (by decide) ?_
                          refine lv_iconst (v := 4) hx hb d_S_superblockStands_159 (by decide) ?_
                          refine lv_ldc2 (v := 2) hx hb hown (htb _ tw_317) d_S_superblockStands_160 ?_
                          obtain ⟨r_47, hc_48, hf⟩ := bd1_s hf
                          refine ucVi (As := [.int ((96 : Int32)), .int ((4 : Int32)), .long ((2 : Int64))]) (rest := []) ⟨hx, hb, hml, hown, htb⟩ hK hP hD hS hA (fun hs => c_S_superblockHas hc_48) (cwV 3 htb (gV tw_304 tw_306 tw_2 tw_73 tw_307) rfl rfl rfl (by decide +kernel) ⟨Nat.le_of_ble_eq_true rfl, Nat.le_of_ble_eq_true rfl⟩) 6 3 rfl rfl rfl rfl rfl hl.1 (Nat.le_of_ble_eq_true rfl) d_S_superblockStands_163 ⟨Nat.zero_le _, Nat.zero_le _⟩ (fun H locs hP hD hS => ?_)
                          refine lv_if_eq (tgt := 173) hx hb d_S_superblockStands_166 (by decide) (fun c_49 => ?_) (fun c_49 => ?_)
                          · have hf := ite_t c_49 hf
                            refine lv_iconst (v := 0) hx hb d_S_superblockStands_173 (by decide) ?_
                            cases hf
                            exact hret _ _ _ _ (Or.inl rfl) hP hD hS d_S_superblockStands_174
                          · have hf := ite_f c_49 hf
                            refine lv_iconst (v := 1) hx hb d_S_superblockStands_169 (by decide) ?_
                            refine lv_goto (tgt := 174) hx hb d_S_superblockStands_170 (by decide) ?_
                            cases hf
                            exact hret _ _ _ _ (Or.inr rfl) hP hD hS d_S_superblockStands_174
set_option maxHeartbeats 4000000 in
set_option maxRecDepth 100000 in
theorem c_S_hasCopies {l : Launch} {dC : Nat → ClassId} {dI : Nat → Nat → Nat} {N : Nat} {h : Nat → Nat} {cI : ClassId} {cL : ClassId} {NW : Nat} {bk : Int32} {sz : Int32} {wd : Nat → Int64} {mb : Nat → Int32} {gB : Int32} {gI : Int32} {gN : Int32} {iN : Int32} {dr : Int32} {es : Int64} {of : Int64} {od : Int32} {pl : Int64} {hd : Int64} {tk : Nat → Int32} {kn : Nat → Int32} {li : Nat → Int32} {pa : Nat → Int32} {ins : Nat → Int32} {cm : Int32} {fd : Int32} {hr : Int32} {hs : Nat} {a1 : Int32} {r : Int32} (hf : f_S_hasCopies N NW sz wd gB a1 = some (r)) : Met l y_S_hasCopies ws_S_hasCopies { frames := 1, cells := 0, slots := 0, locals := 27 } (PcU (dC, dI) clAll [(cI, .int), (cL, .long)] (wC h cI cL NW bk sz wd mb gB gI gN iN dr es of od pl hd tk kn li pa ins cm fd hr) hs [.ref (h 6), .int a1]) (QUi (dC, dI) clAll [(cI, .int), (cL, .long)] (wC h cI cL NW bk sz wd mb gB gI gN iN dr es of od pl hd tk kn li pa ins cm fd hr) (wC h cI cL NW bk sz wd mb gB gI gN iN dr es of od pl hd tk kn li pa ins cm fd hr) hs r) 0 0 (va_A (wC h cI cL NW bk sz wd mb gB gI gN iN dr es of od pl hd tk kn li pa ins cm fd hr) hs) := by
  refine mUz (cc := b_S_hasCopies) (maxL := 7) (by decide) rfl (Nat.le_of_ble_eq_true rfl) ?_
  intro p e s m args below meth c Q hx hb hml hts hown A hA hK hP hD hS hret ls hl
  have htb : ∀ w ∈ TB, w.before args s = true := fun w h => hts w (List.mem_cons_of_mem _ h)
  have hl : lv_has ls 7 [(0, .ref (h 6)), (1, .int a1)] := hl
  have hj_17 : ∀ (k_17 : Nat) (x1 : Int32) (x2 : Int64) (x4 : Int32) (H : Heap) (locs : List Loc) (ls : Array Slot), f_S_hasCopies_17 N NW sz wd gB k_17 x1 x2 x4 = some (r) → va_P (dC, dI) clAll (wC h cI cL NW bk sz wd mb gB gI gN iN dr es of od pl hd tk kn li pa ins cm fd hr) H → va_D A (wC h cI cL NW bk sz wd mb gB gI gN iN dr es of od pl hd tk kn li pa ins cm fd hr) → va_S A s.heap H locs → lv_has ls 7 [(0, .ref (h 6)), (1, .int x1), (2, .long x2), (4, .int x4)] → W p l e (headSpec ws_S_hasCopies { frames := 1, cells := 0, slots := 0, locals := 27 }).room s m args below meth c H locs 0 0 Q (F0 m 17 ls []) := by
    intro k_17
    induction k_17 with
    | zero => intro _ _ _ _ _ _ hf; exact absurd hf (by simp [f_S_hasCopies_17])
    | succ k_17 ih_17 =>
      have hj_60 : ∀ (x1 : Int32) (x2 : Int64) (x4 : Int32) (x5 : Int64) (H : Heap) (locs : List Loc) (ls : Array Slot), f_S_hasCopies_60 N NW sz wd gB (f_S_hasCopies_17 N NW sz wd gB k_17) x1 x2 x4 x5 = some (r) → va_P (dC, dI) clAll (wC h cI cL NW bk sz wd mb gB gI gN iN dr es of od pl hd tk kn li pa ins cm fd hr) H → va_D A (wC h cI cL NW bk sz wd mb gB gI gN iN dr es of od pl hd tk kn li pa ins cm fd hr) → va_S A s.heap H locs → lv_has ls 7 [(0, .ref (h 6)), (1, .int x1), (2, .long x2), (4, .int x4), (5, .long x5)] → W p l e (headSpec ws_S_hasCopies { frames := 1, cells := 0, slots := 0, locals := 27 }).room s m args below meth c H locs 0 0 Q (F0 m 60 ls []) := by
        intro x1 x2 x4 x5 H locs ls hf hP hD hS hl
        unfold f_S_hasCopies_60 at hf
        refine lv_aload_n hx hb d_S_hasCopies_60 rfl (lv_at hl 0 rfl) ?_
        refine va_get (D := (dC, dI)) (ci := 3) (v := .ref (h 1)) (C := R_S) (T := T_S) (N := 10) hx hb htb in_S hown hK hP 6 rfl rfl 0 (by decide) (htb _ tw_176) (fun _ h9 => h9) rfl d_S_hasCopies_61 ?_
        refine lv_lload_n hx hb d_S_hasCopies_64 rfl (lv_at hl 2 rfl) ?_
        refine lv_iload hx hb d_S_hasCopies_65 (lv_at hl 3 rfl) ?_
        refine lv_i2l hx hb d_S_hasCopies_67 rfl ?_
        refine lv_ladd hx hb d_S_hasCopies_68 ?_
        refine lv_bipush (v := 8) hx hb d_S_hasCopies_69 (by decide) ?_
        obtain ⟨r_1, hc_2, hf⟩ := bd1_s hf
        refine ucVl (As := [.long (x2 + (Int32.toInt64 x4)), .int ((8 : Int32))]) (rest := []) ⟨hx, hb, hml, hown, htb⟩ hK hP hD hS hA (fun hs => c_D_number hc_2) (cwV 2 htb (gV tw_308 tw_264 tw_265 tw_69 tw_266) rfl rfl rfl (by decide +kernel) ⟨Nat.le_of_ble_eq_true rfl, Nat.le_of_ble_eq_true rfl⟩) 1 0 rfl rfl rfl rfl rfl hl.1 (Nat.le_of_ble_eq_true rfl) d_S_hasCopies_71 ⟨Nat.zero_le _, Nat.zero_le _⟩ (fun H locs hP hD hS => ?_)
        refine lv_lload hx hb d_S_hasCopies_74 (lv_at hl 4 rfl) ?_
        refine lc_eq (tgt := 82) hx hb d_S_hasCopies_76 d_S_hasCopies_77 (by decide) (fun c_3 => ?_) (fun c_3 => ?_)
        · have hf := ite_t c_3 hf
          obtain ⟨v4_4, ev4_4, hf⟩ := lt1_s hf
          refine lv_iinc (v := v4_4) (lv' := [(4, .int v4_4), (0, .ref (h 6)), (1, .int x1), (2, .long x2), (5, .long x5)]) hx hb d_S_hasCopies_82 hl (k := 3) rfl (by rw [← ev4_4]; rfl) (by decide) rfl (fun ls hl => ?_)
          refine lv_goto (tgt := 17) hx hb d_S_hasCopies_85 (by decide) ?_
          exact ih_17 x1 x2 v4_4 _ _ _ hf hP hD hS (lv_sub hl [1, 2, 3, 0] rfl)
        · have hf := ite_f c_3 hf
          refine lv_iconst (v := 0) hx hb d_S_hasCopies_80 (by decide) ?_
          cases hf
          exact hret _ _ _ _ (Or.inl rfl) hP hD hS d_S_hasCopies_81
      intro x1 x2 x4 H locs ls hf hP hD hS hl
      rw [f_S_hasCopies_17] at hf
      refine lv_iload hx hb d_S_hasCopies_17 (lv_at hl 3 rfl) ?_
      refine lv_sipush (v := 2048) hx hb d_S_hasCopies_19 (by decide) ?_
      refine lv_icmp_ge (tgt := 88) hx hb d_S_hasCopies_22 (by decide) (fun c_1 => ?_) (fun c_1 => ?_)
      · have hf := ite_t c_1 hf
        refine lv_iconst (v := 1) hx hb d_S_hasCopies_88 (by decide) ?_
        cases hf
        exact hret _ _ _ _ (Or.inr rfl) hP hD hS d_S_hasCopies_89
      · have hf := ite_f c_1 hf
        refine lv_aload_n hx hb d_S_hasCopies_25 rfl (lv_at hl 0 rfl) ?_
        refine va_get (D := (dC, dI)) (ci := 3) (v := .ref (h 1)) (C := R_S) (T := T_S) (N := 10) hx hb htb in_S hown hK hP 6 rfl rfl 0 (by decide) (htb _ tw_176) (fun _ h9 => h9) rfl d_S_hasCopies_26 ?_
        refine lv_sipush (v := 1024) hx hb d_S_hasCopies_29 (by decide) ?_
        refine lv_iload hx hb d_S_hasCopies_32 (lv_at hl 3 rfl) ?_
        refine lv_iadd hx hb d_S_hasCopies_34 ?_
        refine lv_i2l hx hb d_S_hasCopies_35 rfl ?_
        refine lv_bipush (v := 8) hx hb d_S_hasCopies_36 (by decide) ?_
        obtain ⟨r_2, hc_3, hf⟩ := bd1_s hf
        refine ucVl (As := [.long (Int32.toInt64 (((1024 : Int32)) + x4)), .int ((8 : Int32))]) (rest := []) ⟨hx, hb, hml, hown, htb⟩ hK hP hD hS hA (fun hs => c_D_number hc_3) (cwV 2 htb (gV tw_308 tw_264 tw_265 tw_69 tw_266) rfl rfl rfl (by decide +kernel) ⟨Nat.le_of_ble_eq_true rfl, Nat.le_of_ble_eq_true rfl⟩) 1 0 rfl rfl rfl rfl rfl hl.1 (Nat.le_of_ble_eq_true rfl) d_S_hasCopies_38 ⟨Nat.zero_le _, Nat.zero_le _⟩ (fun H locs hP hD hS => ?_)
        refine lv_lstore (lv' := [(5, .long r_2), (0, .ref (h 6)), (1, .int x1), (2, .long x2), (4, .int x4)]) hx hb d_S_hasCopies_41 hl (by decide) rfl (fun ls hl => ?_)
        refine lv_iload hx hb d_S_hasCopies_43 (lv_at hl 4 rfl) ?_
        refine lv_bipush (v := 88) hx hb d_S_hasCopies_45 (by decide) ?_
        refine lv_icmp_ne (tgt := 60) hx hb d_S_hasCopies_47 (by decide) (fun c_4 => ?_) (fun c_4 => ?_)
        · have hf := ite_f c_4 hf
          exact hj_60 x1 x2 x4 r_2 _ _ _ hf hP hD hS (lv_sub hl [1, 2, 3, 4, 0] rfl)
        · have hf := ite_t c_4 hf
          refine lv_lload hx hb d_S_hasCopies_50 (lv_at hl 0 rfl) ?_
          refine lv_iload_n hx hb d_S_hasCopies_52 rfl (lv_at hl 2 rfl) ?_
          refine lv_i2l hx hb d_S_hasCopies_53 rfl ?_
          refine lv_bipush (v := 16) hx hb d_S_hasCopies_54 (by decide) ?_
          refine lv_lshl hx hb d_S_hasCopies_56 rfl ?_
          refine lv_lor hx hb d_S_hasCopies_57 ?_
          obtain ⟨v5_5, ev5_5, hf⟩ := lt1_s hf
          refine lv_eql ev5_5 ?_
          refine lv_lstore (lv' := [(5, .long v5_5), (0, .ref (h 6)), (1, .int x1), (2, .long x2), (4, .int x4)]) hx hb d_S_hasCopies_58 hl (by decide) rfl (fun ls hl => ?_)
          exact hj_60 x1 x2 x4 v5_5 _ _ _ hf hP hD hS (lv_sub hl [1, 2, 3, 4, 0] rfl)
  unfold f_S_hasCopies at hf
  refine lv_ldc2 (v := 1024) hx hb hown (htb _ tw_339) d_S_hasCopies_0 ?_
  refine lv_aload_n hx hb d_S_hasCopies_3 rfl (lv_at hl 0 rfl) ?_
  refine va_get (D := (dC, dI)) (ci := 3) (v := .ref (h 3)) (C := R_S) (T := T_S) (N := 10) hx hb htb in_S hown hK hP 6 rfl rfl 1 (by decide) (htb _ tw_177) (fun _ h9 => h9) rfl d_S_hasCopies_4 ?_
  refine lv_iload_n hx hb d_S_hasCopies_7 rfl (lv_at hl 1 rfl) ?_
  obtain ⟨r_1, hc_2, hf⟩ := bd1_s hf
  refine ucVi (As := [.int a1]) (rest := [.long ((1024 : Int64))]) ⟨hx, hb, hml, hown, htb⟩ hK hP hD hS hA (fun hs => c_L_firstBlock hc_2) (cwV 1 htb (gV tw_340 tw_331 tw_332 tw_71 tw_333) rfl rfl rfl (by decide +kernel) ⟨Nat.le_of_ble_eq_true rfl, Nat.le_of_ble_eq_true rfl⟩) 3 2 rfl rfl rfl rfl rfl hl.1 (Nat.le_of_ble_eq_true rfl) d_S_hasCopies_8 ⟨Nat.zero_le _, Nat.zero_le _⟩ (fun H locs hP hD hS => ?_)
  refine lv_i2l hx hb d_S_hasCopies_11 rfl ?_
  refine lv_lmul hx hb d_S_hasCopies_12 ?_
  obtain ⟨v2_3, ev2_3, hf⟩ := lt1_s hf
  refine lv_eql ev2_3 ?_
  refine lv_lstore_n (lv' := [(2, .long v2_3), (0, .ref (h 6)), (1, .int a1)]) hx hb d_S_hasCopies_13 rfl hl (by decide) rfl (fun ls hl => ?_)
  refine lv_iconst (v := 0) hx hb d_S_hasCopies_14 (by decide) ?_
  refine lv_istore (lv' := [(4, .int ((0 : Int32))), (2, .long v2_3), (0, .ref (h 6)), (1, .int a1)]) hx hb d_S_hasCopies_15 hl (by decide) rfl (fun ls hl => ?_)
  exact hj_17 N a1 v2_3 ((0 : Int32)) _ _ _ hf hP hD hS (lv_sub hl [2, 3, 1, 0] rfl)
set_option maxHeartbeats 4000000 in
set_option maxRecDepth 100000 in
theorem c_S_copiesStand {l : Launch} {dC : Nat → ClassId} {dI : Nat → Nat → Nat} {N : Nat} {h : Nat → Nat} {cI : ClassId} {cL : ClassId} {NW : Nat} {bk : Int32} {sz : Int32} {wd : Nat → Int64} {mb : Nat → Int32} {gB : Int32} {gI : Int32} {gN : Int32} {iN : Int32} {dr : Int32} {es : Int64} {of : Int64} {od : Int32} {pl : Int64} {hd : Int64} {tk : Nat → Int32} {kn : Nat → Int32} {li : Nat → Int32} {pa : Nat → Int32} {ins : Nat → Int32} {cm : Int32} {fd : Int32} {hr : Int32} {hs : Nat} {r : Int32} (hf : f_S_copiesStand N NW bk sz wd gB gN = some (r)) : Met l y_S_copiesStand ws_S_copiesStand { frames := 2, cells := 0, slots := 0, locals := 53 } (PcU (dC, dI) clAll [(cI, .int), (cL, .long)] (wC h cI cL NW bk sz wd mb gB gI gN iN dr es of od pl hd tk kn li pa ins cm fd hr) hs [.ref (h 6)]) (QUi (dC, dI) clAll [(cI, .int), (cL, .long)] (wC h cI cL NW bk sz wd mb gB gI gN iN dr es of od pl hd tk kn li pa ins cm fd hr) (wC h cI cL NW bk sz wd mb gB gI gN iN dr es of od pl hd tk kn li pa ins cm fd hr) hs r) 0 0 (va_A (wC h cI cL NW bk sz wd mb gB gI gN iN dr es of od pl hd tk kn li pa ins cm fd hr) hs) := by
  refine mUz (cc := b_S_copiesStand) (maxL := 2) (by decide) rfl (Nat.le_of_ble_eq_true rfl) ?_
  intro p e s m args below meth c Q hx hb hml hts hown A hA hK hP hD hS hret ls hl
  have htb : ∀ w ∈ TB, w.before args s = true := fun w h => hts w (List.mem_cons_of_mem _ h)
  have hl : lv_has ls 2 [(0, .ref (h 6))] := hl
  have hj_2 : ∀ (k_2 : Nat) (x1 : Int32) (H : Heap) (locs : List Loc) (ls : Array Slot), f_S_copiesStand_2 N NW bk sz wd gB gN k_2 x1 = some (r) → va_P (dC, dI) clAll (wC h cI cL NW bk sz wd mb gB gI gN iN dr es of od pl hd tk kn li pa ins cm fd hr) H → va_D A (wC h cI cL NW bk sz wd mb gB gI gN iN dr es of od pl hd tk kn li pa ins cm fd hr) → va_S A s.heap H locs → lv_has ls 2 [(0, .ref (h 6)), (1, .int x1)] → W p l e (headSpec ws_S_copiesStand { frames := 2, cells := 0, slots := 0, locals := 53 }).room s m args below meth c H locs 0 0 Q (F0 m 2 ls []) := by
    intro k_2
    induction k_2 with
    | zero => intro _ _ _ _ hf; exact absurd hf (by simp [f_S_copiesStand_2])
    | succ k_2 ih_2 =>
      intro x1 H locs ls hf hP hD hS hl
      rw [f_S_copiesStand_2] at hf
      refine lv_iload_n hx hb d_S_copiesStand_2 rfl (lv_at hl 1 rfl) ?_
      refine lv_aload_n hx hb d_S_copiesStand_3 rfl (lv_at hl 0 rfl) ?_
      refine va_get (D := (dC, dI)) (ci := 3) (v := .ref (h 3)) (C := R_S) (T := T_S) (N := 10) hx hb htb in_S hown hK hP 6 rfl rfl 1 (by decide) (htb _ tw_177) (fun _ h9 => h9) rfl d_S_copiesStand_4 ?_
      obtain ⟨r_1, hc_2, hf⟩ := bd1_s hf
      refine ucVi (As := []) (rest := [.int x1]) ⟨hx, hb, hml, hown, htb⟩ hK hP hD hS hA (fun hs => c_L_groups hc_2) (cwV 0 htb (gV tw_322 tw_323 tw_324 tw_71 tw_325) rfl rfl rfl (by decide +kernel) ⟨Nat.le_of_ble_eq_true rfl, Nat.le_of_ble_eq_true rfl⟩) 3 2 rfl rfl rfl rfl rfl hl.1 (Nat.le_of_ble_eq_true rfl) d_S_copiesStand_7 ⟨Nat.zero_le _, Nat.zero_le _⟩ (fun H locs hP hD hS => ?_)
      refine lv_icmp_ge (tgt := 41) hx hb d_S_copiesStand_10 (by decide) (fun c_3 => ?_) (fun c_3 => ?_)
      · have hf := ite_t c_3 hf
        refine lv_iconst (v := 1) hx hb d_S_copiesStand_41 (by decide) ?_
        cases hf
        exact hret _ _ _ _ (Or.inr rfl) hP hD hS d_S_copiesStand_42
      · have hf := ite_f c_3 hf
        refine lv_aload_n hx hb d_S_copiesStand_13 rfl (lv_at hl 0 rfl) ?_
        refine va_get (D := (dC, dI)) (ci := 3) (v := .ref (h 3)) (C := R_S) (T := T_S) (N := 10) hx hb htb in_S hown hK hP 6 rfl rfl 1 (by decide) (htb _ tw_177) (fun _ h9 => h9) rfl d_S_copiesStand_14 ?_
        refine lv_iload_n hx hb d_S_copiesStand_17 rfl (lv_at hl 1 rfl) ?_
        obtain ⟨r_4, hc_5, hf⟩ := bd1_s hf
        refine ucVi (As := [.int x1]) (rest := []) ⟨hx, hb, hml, hown, htb⟩ hK hP hD hS hA (fun hs => c_L_blocksOf hc_5) (cwV 1 htb (gV tw_326 tw_327 tw_328 tw_71 tw_329) rfl rfl rfl (by decide +kernel) ⟨Nat.le_of_ble_eq_true rfl, Nat.le_of_ble_eq_true rfl⟩) 3 2 rfl rfl rfl rfl rfl hl.1 (Nat.le_of_ble_eq_true rfl) d_S_copiesStand_18 ⟨Nat.zero_le _, Nat.zero_le _⟩ (fun H locs hP hD hS => ?_)
        refine lv_iconst (v := 2) hx hb d_S_copiesStand_21 (by decide) ?_
        refine lv_icmp_lt (tgt := 33) hx hb d_S_copiesStand_22 (by decide) (fun c_6 => ?_) (fun c_6 => ?_)
        · have hf := ite_t c_6 hf
          refine lv_iconst (v := 0) hx hb d_S_copiesStand_33 (by decide) ?_
          cases hf
          exact hret _ _ _ _ (Or.inl rfl) hP hD hS d_S_copiesStand_34
        · have hf := ite_f c_6 hf
          refine lv_aload_n hx hb d_S_copiesStand_25 rfl (lv_at hl 0 rfl) ?_
          refine lv_iload_n hx hb d_S_copiesStand_26 rfl (lv_at hl 1 rfl) ?_
          obtain ⟨r_7, hc_8, hf⟩ := bd1_s hf
          refine ucVi (As := [.int x1]) (rest := []) ⟨hx, hb, hml, hown, htb⟩ hK hP hD hS hA (fun hs => c_S_hasCopies hc_8) (cwV 1 htb (gV tw_335 tw_337 tw_4 tw_73 tw_338) rfl rfl rfl (by decide +kernel) ⟨Nat.le_of_ble_eq_true rfl, Nat.le_of_ble_eq_true rfl⟩) 6 3 rfl rfl rfl rfl rfl hl.1 (Nat.le_of_ble_eq_true rfl) d_S_copiesStand_27 ⟨Nat.zero_le _, Nat.zero_le _⟩ (fun H locs hP hD hS => ?_)
          refine lv_if_ne (tgt := 35) hx hb d_S_copiesStand_30 (by decide) (fun c_9 => ?_) (fun c_9 => ?_)
          · have hf := ite_f c_9 hf
            obtain ⟨v1_10, ev1_10, hf⟩ := lt1_s hf
            refine lv_iinc (v := v1_10) (lv' := [(1, .int v1_10), (0, .ref (h 6))]) hx hb d_S_copiesStand_35 hl (k := 1) rfl (by rw [← ev1_10]; rfl) (by decide) rfl (fun ls hl => ?_)
            refine lv_goto (tgt := 2) hx hb d_S_copiesStand_38 (by decide) ?_
            exact ih_2 v1_10 _ _ _ hf hP hD hS (lv_sub hl [1, 0] rfl)
          · have hf := ite_t c_9 hf
            refine lv_iconst (v := 0) hx hb d_S_copiesStand_33 (by decide) ?_
            cases hf
            exact hret _ _ _ _ (Or.inl rfl) hP hD hS d_S_copiesStand_34
  unfold f_S_copiesStand at hf
  refine lv_iconst (v := 1) hx hb d_S_copiesStand_0 (by decide) ?_
  refine lv_istore_n (lv' := [(1, .int ((1 : Int32))), (0, .ref (h 6))]) hx hb d_S_copiesStand_1 rfl hl (by decide) rfl (fun ls hl => ?_)
  exact hj_2 N ((1 : Int32)) _ _ _ hf hP hD hS (lv_sub hl [1, 0] rfl)
set_option maxHeartbeats 4000000 in
set_option maxRecDepth 100000 in
theorem c_S_fix {l : Launch} {dC : Nat → ClassId} {dI : Nat → Nat → Nat} {N : Nat} {h : Nat → Nat} {cI : ClassId} {cL : ClassId} {NW : Nat} {bk : Int32} {sz : Int32} {wd : Nat → Int64} {mb : Nat → Int32} {gB : Int32} {gI : Int32} {gN : Int32} {iN : Int32} {dr : Int32} {es : Int64} {of : Int64} {od : Int32} {pl : Int64} {hd : Int64} {tk : Nat → Int32} {kn : Nat → Int32} {li : Nat → Int32} {pa : Nat → Int32} {ins : Nat → Int32} {cm : Int32} {fd : Int32} {hr : Int32} {hs : Nat} {a1 : Int32} {a2 : Int32} {tk' : Nat → Int32} (hf : f_S_fix N NW tk a1 a2 = some (tk')) : Met l y_S_fix ws_S_fix { frames := 1, cells := 0, slots := 0, locals := 21 } (PcU (dC, dI) clAll [(cI, .int), (cL, .long)] (wC h cI cL NW bk sz wd mb gB gI gN iN dr es of od pl hd tk kn li pa ins cm fd hr) hs [.ref (h 6), .int a1, .int a2]) (QUv (dC, dI) clAll [(cI, .int), (cL, .long)] (wC h cI cL NW bk sz wd mb gB gI gN iN dr es of od pl hd tk kn li pa ins cm fd hr) (wC h cI cL NW bk sz wd mb gB gI gN iN dr es of od pl hd tk' kn li pa ins cm fd hr) hs) 0 0 (va_A (wC h cI cL NW bk sz wd mb gB gI gN iN dr es of od pl hd tk kn li pa ins cm fd hr) hs) := by
  refine mUv (cc := b_S_fix) (maxL := 4) (by decide) rfl (Nat.le_of_ble_eq_true rfl) ?_
  intro p e s m args below meth c Q hx hb hml hts hown A hA hK hP hD hS hret ls hl
  have htb : ∀ w ∈ TB, w.before args s = true := fun w h => hts w (List.mem_cons_of_mem _ h)
  have hl : lv_has ls 4 [(0, .ref (h 6)), (1, .int a1), (2, .int a2)] := hl
  have hj_6 : ∀ (k_6 : Nat) (tk : Nat → Int32) (x1 : Int32) (x2 : Int32) (x3 : Int32) (H : Heap) (locs : List Loc) (ls : Array Slot), f_S_fix_6 N NW k_6 tk x1 x2 x3 = some (tk') → va_P (dC, dI) clAll (wC h cI cL NW bk sz wd mb gB gI gN iN dr es of od pl hd tk kn li pa ins cm fd hr) H → va_D A (wC h cI cL NW bk sz wd mb gB gI gN iN dr es of od pl hd tk kn li pa ins cm fd hr) → va_S A s.heap H locs → lv_has ls 4 [(0, .ref (h 6)), (1, .int x1), (2, .int x2), (3, .int x3)] → W p l e (headSpec ws_S_fix { frames := 1, cells := 0, slots := 0, locals := 21 }).room s m args below meth c H locs 0 0 Q (F0 m 6 ls []) := by
    intro k_6
    induction k_6 with
    | zero => intro _ _ _ _ _ _ _ hf; exact absurd hf (by simp [f_S_fix_6])
    | succ k_6 ih_6 =>
      intro tk x1 x2 x3 H locs ls hf hP hD hS hl
      rw [f_S_fix_6] at hf
      refine lv_iload_n hx hb d_S_fix_6 rfl (lv_at hl 3 rfl) ?_
      refine lv_iload_n hx hb d_S_fix_7 rfl (lv_at hl 1 rfl) ?_
      refine lv_iload_n hx hb d_S_fix_8 rfl (lv_at hl 2 rfl) ?_
      refine lv_iadd hx hb d_S_fix_9 ?_
      refine lv_icmp_ge (tgt := 35) hx hb d_S_fix_10 (by decide) (fun c_1 => ?_) (fun c_1 => ?_)
      · have hf := ite_t c_1 hf
        cases hf
        exact hret _ _ _ _ hP hD hS d_S_fix_35
      · have hf := ite_f c_1 hf
        refine lv_iload_n hx hb d_S_fix_13 rfl (lv_at hl 3 rfl) ?_
        refine lv_aload_n hx hb d_S_fix_14 rfl (lv_at hl 0 rfl) ?_
        refine va_get (D := (dC, dI)) (ci := 3) (v := .ref (h 7)) (C := R_S) (T := T_S) (N := 10) hx hb htb in_S hown hK hP 6 rfl rfl 3 (by decide) (htb _ tw_179) (fun _ h9 => h9) rfl d_S_fix_15 ?_
        refine va_alen (v := (512 : Int32)) hx hb hK hP 7 0 rfl rfl rfl d_S_fix_18 ?_
        refine lv_icmp_ge (tgt := 35) hx hb d_S_fix_19 (by decide) (fun c_2 => ?_) (fun c_2 => ?_)
        · have hf := ite_t c_2 hf
          cases hf
          exact hret _ _ _ _ hP hD hS d_S_fix_35
        · have hf := ite_f c_2 hf
          refine lv_aload_n hx hb d_S_fix_22 rfl (lv_at hl 0 rfl) ?_
          refine va_get (D := (dC, dI)) (ci := 3) (v := .ref (h 7)) (C := R_S) (T := T_S) (N := 10) hx hb htb in_S hown hK hP 6 rfl rfl 3 (by decide) (htb _ tw_179) (fun _ h9 => h9) rfl d_S_fix_23 ?_
          refine lv_iload_n hx hb d_S_fix_26 rfl (lv_at hl 3 rfl) ?_
          refine lv_iconst (v := 1) hx hb d_S_fix_27 (by decide) ?_
          obtain ⟨c_3, hf⟩ := gd_s hf
          refine va_iast (i := x3) (x := (1 : Int32)) hx hb hK hP hD hS 7 0 rfl rfl c_3 d_S_fix_28 (fun H locs hP hD hS => ?_)
          obtain ⟨tk_4, etk_4, hf⟩ := lt1_s hf
          have hP : va_P (dC, dI) clAll (wC h cI cL NW bk sz wd mb gB gI gN iN dr es of od pl hd tk_4 kn li pa ins cm fd hr) H := etk_4 ▸ hP
          have hD : va_D A (wC h cI cL NW bk sz wd mb gB gI gN iN dr es of od pl hd tk_4 kn li pa ins cm fd hr) := etk_4 ▸ hD
          obtain ⟨v3_5, ev3_5, hf⟩ := lt1_s hf
          refine lv_iinc (v := v3_5) (lv' := [(3, .int v3_5), (0, .ref (h 6)), (1, .int x1), (2, .int x2)]) hx hb d_S_fix_29 hl (k := 3) rfl (by rw [← ev3_5]; rfl) (by decide) rfl (fun ls hl => ?_)
          refine lv_goto (tgt := 6) hx hb d_S_fix_32 (by decide) ?_
          exact ih_6 tk_4 x1 x2 v3_5 _ _ _ hf hP hD hS (lv_sub hl [1, 2, 3, 0] rfl)
  unfold f_S_fix at hf
  refine lv_iload_n hx hb d_S_fix_0 rfl (lv_at hl 1 rfl) ?_
  refine lv_iconst (v := 0) hx hb d_S_fix_1 (by decide) ?_
  refine va_mmax hx hb (hml.trans hl.1.symm) hown (htb _ tw_364) (htb _ tw_100) (htb _ tw_70) (htb _ tw_101) (Nat.le_of_ble_eq_true rfl) (Nat.le_of_ble_eq_true rfl) (Nat.zero_le _) (Nat.zero_le _) d_S_fix_2 ?_
  obtain ⟨v3_1, ev3_1, hf⟩ := lt1_s hf
  refine lv_eqi ev3_1 ?_
  refine lv_istore_n (lv' := [(3, .int v3_1), (0, .ref (h 6)), (1, .int a1), (2, .int a2)]) hx hb d_S_fix_5 rfl hl (by decide) rfl (fun ls hl => ?_)
  exact hj_6 N tk a1 a2 v3_1 _ _ _ hf hP hD hS (lv_sub hl [1, 2, 3, 0] rfl)
set_option maxHeartbeats 4000000 in
set_option maxRecDepth 100000 in
theorem c_S_groupsStand {l : Launch} {dC : Nat → ClassId} {dI : Nat → Nat → Nat} {N : Nat} {h : Nat → Nat} {cI : ClassId} {cL : ClassId} {NW : Nat} {bk : Int32} {sz : Int32} {wd : Nat → Int64} {mb : Nat → Int32} {gB : Int32} {gI : Int32} {gN : Int32} {iN : Int32} {dr : Int32} {es : Int64} {of : Int64} {od : Int32} {pl : Int64} {hd : Int64} {tk : Nat → Int32} {kn : Nat → Int32} {li : Nat → Int32} {pa : Nat → Int32} {ins : Nat → Int32} {cm : Int32} {fd : Int32} {hr : Int32} {hs : Nat} {r : Int32} {mb' : Nat → Int32} {tk' : Nat → Int32} (hf : f_S_groupsStand N NW bk sz wd mb gB gI gN tk = some (r, mb', tk')) : Met l y_S_groupsStand ws_S_groupsStand { frames := 2, cells := 0, slots := 0, locals := 50 } (PcU (dC, dI) clAll [(cI, .int), (cL, .long)] (wC h cI cL NW bk sz wd mb gB gI gN iN dr es of od pl hd tk kn li pa ins cm fd hr) hs [.ref (h 6)]) (QUi (dC, dI) clAll [(cI, .int), (cL, .long)] (wC h cI cL NW bk sz wd mb gB gI gN iN dr es of od pl hd tk kn li pa ins cm fd hr) (wC h cI cL NW bk sz wd mb' gB gI gN iN dr es of od pl hd tk' kn li pa ins cm fd hr) hs r) 0 0 (va_A (wC h cI cL NW bk sz wd mb gB gI gN iN dr es of od pl hd tk kn li pa ins cm fd hr) hs) := by
  refine mUz (cc := b_S_groupsStand) (maxL := 7) (by decide) rfl (Nat.le_of_ble_eq_true rfl) ?_
  intro p e s m args below meth c Q hx hb hml hts hown A hA hK hP hD hS hret ls hl
  have htb : ∀ w ∈ TB, w.before args s = true := fun w h => hts w (List.mem_cons_of_mem _ h)
  have hl : lv_has ls 7 [(0, .ref (h 6))] := hl
  have hj_10 : ∀ (k_10 : Nat) (mb : Nat → Int32) (tk : Nat → Int32) (x1 : Int32) (H : Heap) (locs : List Loc) (ls : Array Slot), f_S_groupsStand_10 N NW bk sz wd gB gI gN k_10 mb tk x1 = some (r, mb', tk') → va_P (dC, dI) clAll (wC h cI cL NW bk sz wd mb gB gI gN iN dr es of od pl hd tk kn li pa ins cm fd hr) H → va_D A (wC h cI cL NW bk sz wd mb gB gI gN iN dr es of od pl hd tk kn li pa ins cm fd hr) → va_S A s.heap H locs → lv_has ls 7 [(0, .ref (h 6)), (1, .int x1)] → W p l e (headSpec ws_S_groupsStand { frames := 2, cells := 0, slots := 0, locals := 50 }).room s m args below meth c H locs 0 0 Q (F0 m 10 ls []) := by
    intro k_10
    induction k_10 with
    | zero => intro _ _ _ _ _ _ hf; exact absurd hf (by simp [f_S_groupsStand_10])
    | succ k_10 ih_10 =>
      intro mb tk x1 H locs ls hf hP hD hS hl
      rw [f_S_groupsStand_10] at hf
      refine lv_iload_n hx hb d_S_groupsStand_10 rfl (lv_at hl 1 rfl) ?_
      refine lv_aload_n hx hb d_S_groupsStand_11 rfl (lv_at hl 0 rfl) ?_
      refine va_get (D := (dC, dI)) (ci := 3) (v := .ref (h 3)) (C := R_S) (T := T_S) (N := 10) hx hb htb in_S hown hK hP 6 rfl rfl 1 (by decide) (htb _ tw_177) (fun _ h9 => h9) rfl d_S_groupsStand_12 ?_
      obtain ⟨r_1, hc_2, hf⟩ := bd1_s hf
      refine ucVi (As := []) (rest := [.int x1]) ⟨hx, hb, hml, hown, htb⟩ hK hP hD hS hA (fun hs => c_L_groups hc_2) (cwV 0 htb (gV tw_322 tw_323 tw_324 tw_71 tw_325) rfl rfl rfl (by decide +kernel) ⟨Nat.le_of_ble_eq_true rfl, Nat.le_of_ble_eq_true rfl⟩) 3 2 rfl rfl rfl rfl rfl hl.1 (Nat.le_of_ble_eq_true rfl) d_S_groupsStand_15 ⟨Nat.zero_le _, Nat.zero_le _⟩ (fun H locs hP hD hS => ?_)
      refine lv_icmp_ge (tgt := 168) hx hb d_S_groupsStand_18 (by decide) (fun c_3 => ?_) (fun c_3 => ?_)
      · have hf := ite_t c_3 hf
        refine lv_iconst (v := 1) hx hb d_S_groupsStand_168 (by decide) ?_
        cases hf
        exact hret _ _ _ _ (Or.inr rfl) hP hD hS d_S_groupsStand_169
      · have hf := ite_f c_3 hf
        refine lv_aload_n hx hb d_S_groupsStand_21 rfl (lv_at hl 0 rfl) ?_
        refine va_get (D := (dC, dI)) (ci := 3) (v := .ref (h 3)) (C := R_S) (T := T_S) (N := 10) hx hb htb in_S hown hK hP 6 rfl rfl 1 (by decide) (htb _ tw_177) (fun _ h9 => h9) rfl d_S_groupsStand_22 ?_
        refine lv_iload_n hx hb d_S_groupsStand_25 rfl (lv_at hl 1 rfl) ?_
        obtain ⟨r_4, hc_5, hf⟩ := bd1_s hf
        refine ucVi (As := [.int x1]) (rest := []) ⟨hx, hb, hml, hown, htb⟩ hK hP hD hS hA (fun hs => c_L_firstBlock hc_5) (cwV 1 htb (gV tw_340 tw_331 tw_332 tw_71 tw_333) rfl rfl rfl (by decide +kernel) ⟨Nat.le_of_ble_eq_true rfl, Nat.le_of_ble_eq_true rfl⟩) 3 2 rfl rfl rfl rfl rfl hl.1 (Nat.le_of_ble_eq_true rfl) d_S_groupsStand_26 ⟨Nat.zero_le _, Nat.zero_le _⟩ (fun H locs hP hD hS => ?_)
        refine lv_istore_n (lv' := [(2, .int r_4), (0, .ref (h 6)), (1, .int x1)]) hx hb d_S_groupsStand_29 rfl hl (by decide) rfl (fun ls hl => ?_)
        refine lv_iload_n hx hb d_S_groupsStand_30 rfl (lv_at hl 0 rfl) ?_
        refine lv_aload_n hx hb d_S_groupsStand_31 rfl (lv_at hl 1 rfl) ?_
        refine va_get (D := (dC, dI)) (ci := 3) (v := .ref (h 3)) (C := R_S) (T := T_S) (N := 10) hx hb htb in_S hown hK hP 6 rfl rfl 1 (by decide) (htb _ tw_177) (fun _ h9 => h9) rfl d_S_groupsStand_32 ?_
        refine lv_iload_n hx hb d_S_groupsStand_35 rfl (lv_at hl 2 rfl) ?_
        obtain ⟨r_6, hc_7, hf⟩ := bd1_s hf
        refine ucVi (As := [.int x1]) (rest := [.int r_4]) ⟨hx, hb, hml, hown, htb⟩ hK hP hD hS hA (fun hs => c_L_blocksOf hc_7) (cwV 1 htb (gV tw_326 tw_327 tw_328 tw_71 tw_329) rfl rfl rfl (by decide +kernel) ⟨Nat.le_of_ble_eq_true rfl, Nat.le_of_ble_eq_true rfl⟩) 3 2 rfl rfl rfl rfl rfl hl.1 (Nat.le_of_ble_eq_true rfl) d_S_groupsStand_36 ⟨Nat.zero_le _, Nat.zero_le _⟩ (fun H locs hP hD hS => ?_)
        refine lv_iadd hx hb d_S_groupsStand_39 ?_
        obtain ⟨v3_8, ev3_8, hf⟩ := lt1_s hf
        refine lv_eqi ev3_8 ?_
        refine lv_istore_n (lv' := [(3, .int v3_8), (2, .int r_4), (0, .ref (h 6)), (1, .int x1)]) hx hb d_S_groupsStand_40 rfl hl (by decide) rfl (fun ls hl => ?_)
        refine lv_aload_n hx hb d_S_groupsStand_41 rfl (lv_at hl 2 rfl) ?_
        refine va_get (D := (dC, dI)) (ci := 3) (v := .ref (h 3)) (C := R_S) (T := T_S) (N := 10) hx hb htb in_S hown hK hP 6 rfl rfl 1 (by decide) (htb _ tw_177) (fun _ h9 => h9) rfl d_S_groupsStand_42 ?_
        obtain ⟨r_9, hc_10, hf⟩ := bd1_s hf
        refine ucVi (As := []) (rest := []) ⟨hx, hb, hml, hown, htb⟩ hK hP hD hS hA (fun hs => c_L_groupInodes hc_10) (cwV 0 htb (gV tw_348 tw_349 tw_350 tw_71 tw_351) rfl rfl rfl (by decide +kernel) ⟨Nat.le_of_ble_eq_true rfl, Nat.le_of_ble_eq_true rfl⟩) 3 2 rfl rfl rfl rfl rfl hl.1 (Nat.le_of_ble_eq_true rfl) d_S_groupsStand_45 ⟨Nat.zero_le _, Nat.zero_le _⟩ (fun H locs hP hD hS => ?_)
        refine lv_bipush (v := 8) hx hb d_S_groupsStand_48 (by decide) ?_
        refine lv_idiv hx hb d_S_groupsStand_50 (by decide) ?_
        obtain ⟨v4_11, ev4_11, hf⟩ := lt1_s hf
        refine lv_eqi ev4_11 ?_
        refine lv_istore (lv' := [(4, .int v4_11), (3, .int v3_8), (2, .int r_4), (0, .ref (h 6)), (1, .int x1)]) hx hb d_S_groupsStand_51 hl (by decide) rfl (fun ls hl => ?_)
        refine lv_aload_n hx hb d_S_groupsStand_53 rfl (lv_at hl 3 rfl) ?_
        refine va_get (D := (dC, dI)) (ci := 3) (v := .ref (h 3)) (C := R_S) (T := T_S) (N := 10) hx hb htb in_S hown hK hP 6 rfl rfl 1 (by decide) (htb _ tw_177) (fun _ h9 => h9) rfl d_S_groupsStand_54 ?_
        refine lv_iload_n hx hb d_S_groupsStand_57 rfl (lv_at hl 4 rfl) ?_
        refine lv_iconst (v := 0) hx hb d_S_groupsStand_58 (by decide) ?_
        refine lv_iconst (v := 4) hx hb d_S_groupsStand_59 (by decide) ?_
        obtain ⟨r_12, hc_13, hf⟩ := bd1_s hf
        refine ucVl (As := [.int x1, .int ((0 : Int32)), .int ((4 : Int32))]) (rest := []) ⟨hx, hb, hml, hown, htb⟩ hK hP hD hS hA (fun hs => c_L_described hc_13) (cwV 3 htb (gV tw_352 tw_353 tw_354 tw_71 tw_355) rfl rfl rfl (by decide +kernel) ⟨Nat.le_of_ble_eq_true rfl, Nat.le_of_ble_eq_true rfl⟩) 3 2 rfl rfl rfl rfl rfl hl.1 (Nat.le_of_ble_eq_true rfl) d_S_groupsStand_60 ⟨Nat.zero_le _, Nat.zero_le _⟩ (fun H locs hP hD hS => ?_)
        refine lv_lstore (lv' := [(5, .long r_12), (4, .int v4_11), (3, .int v3_8), (2, .int r_4), (0, .ref (h 6)), (1, .int x1)]) hx hb d_S_groupsStand_63 hl (by decide) rfl (fun ls hl => ?_)
        refine lv_lload hx hb d_S_groupsStand_65 (lv_at hl 0 rfl) ?_
        refine lv_iload_n hx hb d_S_groupsStand_67 rfl (lv_at hl 3 rfl) ?_
        refine lv_iconst (v := 2) hx hb d_S_groupsStand_68 (by decide) ?_
        refine lv_iadd hx hb d_S_groupsStand_69 ?_
        refine lv_i2l hx hb d_S_groupsStand_70 rfl ?_
        refine lc_lt (tgt := 91) hx hb d_S_groupsStand_71 d_S_groupsStand_72 (by decide) (fun c_14 => ?_) (fun c_14 => ?_)
        · have hf := ite_t c_14 hf
          refine lv_iconst (v := 0) hx hb d_S_groupsStand_91 (by decide) ?_
          cases hf
          exact hret _ _ _ _ (Or.inl rfl) hP hD hS d_S_groupsStand_92
        · have hf := ite_f c_14 hf
          refine lv_lload hx hb d_S_groupsStand_75 (lv_at hl 0 rfl) ?_
          refine lv_ldc2 (v := 2) hx hb hown (htb _ tw_317) d_S_groupsStand_77 ?_
          refine lv_ladd hx hb d_S_groupsStand_80 ?_
          refine lv_iload hx hb d_S_groupsStand_81 (lv_at hl 1 rfl) ?_
          refine lv_i2l hx hb d_S_groupsStand_83 rfl ?_
          refine lv_ladd hx hb d_S_groupsStand_84 ?_
          refine lv_iload_n hx hb d_S_groupsStand_85 rfl (lv_at hl 2 rfl) ?_
          refine lv_i2l hx hb d_S_groupsStand_86 rfl ?_
          refine lc_le (tgt := 93) hx hb d_S_groupsStand_87 d_S_groupsStand_88 (by decide) (fun c_15 => ?_) (fun c_15 => ?_)
          · have hf := ite_t c_15 hf
            refine lv_aload_n hx hb d_S_groupsStand_93 rfl (lv_at hl 4 rfl) ?_
            refine va_get (D := (dC, dI)) (ci := 3) (v := .ref (h 3)) (C := R_S) (T := T_S) (N := 10) hx hb htb in_S hown hK hP 6 rfl rfl 1 (by decide) (htb _ tw_177) (fun _ h9 => h9) rfl d_S_groupsStand_94 ?_
            refine lv_iload_n hx hb d_S_groupsStand_97 rfl (lv_at hl 5 rfl) ?_
            refine lv_iconst (v := 4) hx hb d_S_groupsStand_98 (by decide) ?_
            refine lv_iconst (v := 4) hx hb d_S_groupsStand_99 (by decide) ?_
            obtain ⟨r_16, hc_17, hf⟩ := bd1_s hf
            refine ucVl (As := [.int x1, .int ((4 : Int32)), .int ((4 : Int32))]) (rest := []) ⟨hx, hb, hml, hown, htb⟩ hK hP hD hS hA (fun hs => c_L_described hc_17) (cwV 3 htb (gV tw_352 tw_353 tw_354 tw_71 tw_355) rfl rfl rfl (by decide +kernel) ⟨Nat.le_of_ble_eq_true rfl, Nat.le_of_ble_eq_true rfl⟩) 3 2 rfl rfl rfl rfl rfl hl.1 (Nat.le_of_ble_eq_true rfl) d_S_groupsStand_100 ⟨Nat.zero_le _, Nat.zero_le _⟩ (fun H locs hP hD hS => ?_)
            refine lv_lload hx hb d_S_groupsStand_103 (lv_at hl 0 rfl) ?_
            refine lv_lconst (v := 1) hx hb d_S_groupsStand_105 (by decide) ?_
            refine lv_ladd hx hb d_S_groupsStand_106 ?_
            refine lc_ne (tgt := 132) hx hb d_S_groupsStand_107 d_S_groupsStand_108 (by decide) (fun c_18 => ?_) (fun c_18 => ?_)
            · have hf := ite_f c_18 hf
              refine lv_iconst (v := 0) hx hb d_S_groupsStand_132 (by decide) ?_
              cases hf
              exact hret _ _ _ _ (Or.inl rfl) hP hD hS d_S_groupsStand_133
            · have hf := ite_t c_18 hf
              refine lv_aload_n hx hb d_S_groupsStand_111 rfl (lv_at hl 4 rfl) ?_
              refine va_get (D := (dC, dI)) (ci := 3) (v := .ref (h 3)) (C := R_S) (T := T_S) (N := 10) hx hb htb in_S hown hK hP 6 rfl rfl 1 (by decide) (htb _ tw_177) (fun _ h9 => h9) rfl d_S_groupsStand_112 ?_
              refine lv_iload_n hx hb d_S_groupsStand_115 rfl (lv_at hl 5 rfl) ?_
              refine lv_bipush (v := 8) hx hb d_S_groupsStand_116 (by decide) ?_
              refine lv_iconst (v := 4) hx hb d_S_groupsStand_118 (by decide) ?_
              obtain ⟨r_19, hc_20, hf⟩ := bd1_s hf
              refine ucVl (As := [.int x1, .int ((8 : Int32)), .int ((4 : Int32))]) (rest := []) ⟨hx, hb, hml, hown, htb⟩ hK hP hD hS hA (fun hs => c_L_described hc_20) (cwV 3 htb (gV tw_352 tw_353 tw_354 tw_71 tw_355) rfl rfl rfl (by decide +kernel) ⟨Nat.le_of_ble_eq_true rfl, Nat.le_of_ble_eq_true rfl⟩) 3 2 rfl rfl rfl rfl rfl hl.1 (Nat.le_of_ble_eq_true rfl) d_S_groupsStand_119 ⟨Nat.zero_le _, Nat.zero_le _⟩ (fun H locs hP hD hS => ?_)
              refine lv_lload hx hb d_S_groupsStand_122 (lv_at hl 0 rfl) ?_
              refine lv_ldc2 (v := 2) hx hb hown (htb _ tw_317) d_S_groupsStand_124 ?_
              refine lv_ladd hx hb d_S_groupsStand_127 ?_
              refine lc_eq (tgt := 134) hx hb d_S_groupsStand_128 d_S_groupsStand_129 (by decide) (fun c_21 => ?_) (fun c_21 => ?_)
              · have hf := ite_t c_21 hf
                refine lv_aload_n hx hb d_S_groupsStand_134 rfl (lv_at hl 4 rfl) ?_
                refine va_get (D := (dC, dI)) (ci := 3) (v := .ref (h 3)) (C := R_S) (T := T_S) (N := 10) hx hb htb in_S hown hK hP 6 rfl rfl 1 (by decide) (htb _ tw_177) (fun _ h9 => h9) rfl d_S_groupsStand_135 ?_
                refine lv_iload_n hx hb d_S_groupsStand_138 rfl (lv_at hl 5 rfl) ?_
                refine lv_lload hx hb d_S_groupsStand_139 (lv_at hl 0 rfl) ?_
                refine lv_l2i hx hb d_S_groupsStand_141 rfl ?_
                obtain ⟨mb_22, hc_23, hf⟩ := bd1_s hf
                refine ucVv (As := [.int x1, .int (Int64.toInt32 r_12)]) (rest := []) ⟨hx, hb, hml, hown, htb⟩ hK hP hD hS hA (fun hs => c_L_setMap hc_23) (cwV 2 htb (gV tw_356 tw_357 tw_358 tw_71 tw_359) rfl rfl rfl (by decide +kernel) ⟨Nat.le_of_ble_eq_true rfl, Nat.le_of_ble_eq_true rfl⟩) 3 2 rfl rfl rfl rfl rfl hl.1 (Nat.le_of_ble_eq_true rfl) d_S_groupsStand_142 ⟨Nat.zero_le _, Nat.zero_le _⟩ (fun H locs hP hD hS => ?_)
                refine lv_aload_n hx hb d_S_groupsStand_145 rfl (lv_at hl 4 rfl) ?_
                refine lv_iload_n hx hb d_S_groupsStand_146 rfl (lv_at hl 3 rfl) ?_
                refine lv_iconst (v := 2) hx hb d_S_groupsStand_147 (by decide) ?_
                obtain ⟨tk_24, hc_25, hf⟩ := bd1_s hf
                refine ucVv (As := [.int r_4, .int ((2 : Int32))]) (rest := []) ⟨hx, hb, hml, hown, htb⟩ hK hP hD hS hA (fun hs => c_S_fix hc_25) (cwV 2 htb (gV tw_360 tw_362 tw_6 tw_73 tw_363) rfl rfl rfl (by decide +kernel) ⟨Nat.le_of_ble_eq_true rfl, Nat.le_of_ble_eq_true rfl⟩) 6 3 rfl rfl rfl rfl rfl hl.1 (Nat.le_of_ble_eq_true rfl) d_S_groupsStand_148 ⟨Nat.zero_le _, Nat.zero_le _⟩ (fun H locs hP hD hS => ?_)
                refine lv_aload_n hx hb d_S_groupsStand_151 rfl (lv_at hl 4 rfl) ?_
                refine lv_lload hx hb d_S_groupsStand_152 (lv_at hl 0 rfl) ?_
                refine lv_l2i hx hb d_S_groupsStand_154 rfl ?_
                refine lv_iconst (v := 2) hx hb d_S_groupsStand_155 (by decide) ?_
                refine lv_iload hx hb d_S_groupsStand_156 (lv_at hl 1 rfl) ?_
                refine lv_iadd hx hb d_S_groupsStand_158 ?_
                obtain ⟨tk_26, hc_27, hf⟩ := bd1_s hf
                refine ucVv (As := [.int (Int64.toInt32 r_12), .int (((2 : Int32)) + v4_11)]) (rest := []) ⟨hx, hb, hml, hown, htb⟩ hK hP hD hS hA (fun hs => c_S_fix hc_27) (cwV 2 htb (gV tw_360 tw_362 tw_6 tw_73 tw_363) rfl rfl rfl (by decide +kernel) ⟨Nat.le_of_ble_eq_true rfl, Nat.le_of_ble_eq_true rfl⟩) 6 3 rfl rfl rfl rfl rfl hl.1 (Nat.le_of_ble_eq_true rfl) d_S_groupsStand_159 ⟨Nat.zero_le _, Nat.zero_le _⟩ (fun H locs hP hD hS => ?_)
                obtain ⟨v1_28, ev1_28, hf⟩ := lt1_s hf
                refine lv_iinc (v := v1_28) (lv' := [(1, .int v1_28), (5, .long r_12), (4, .int v4_11), (3, .int v3_8), (2, .int r_4), (0, .ref (h 6))]) hx hb d_S_groupsStand_162 hl (k := 5) rfl (by rw [← ev1_28]; rfl) (by decide) rfl (fun ls hl => ?_)
                refine lv_goto (tgt := 10) hx hb d_S_groupsStand_165 (by decide) ?_
                exact ih_10 mb_22 tk_26 v1_28 _ _ _ hf hP hD hS (lv_sub hl [5, 0] rfl)
              · have hf := ite_f c_21 hf
                refine lv_iconst (v := 0) hx hb d_S_groupsStand_132 (by decide) ?_
                cases hf
                exact hret _ _ _ _ (Or.inl rfl) hP hD hS d_S_groupsStand_133
          · have hf := ite_f c_15 hf
            refine lv_iconst (v := 0) hx hb d_S_groupsStand_91 (by decide) ?_
            cases hf
            exact hret _ _ _ _ (Or.inl rfl) hP hD hS d_S_groupsStand_92
  unfold f_S_groupsStand at hf
  refine lv_aload_n hx hb d_S_groupsStand_0 rfl (lv_at hl 0 rfl) ?_
  refine va_get (D := (dC, dI)) (ci := 3) (v := .ref (h 7)) (C := R_S) (T := T_S) (N := 10) hx hb htb in_S hown hK hP 6 rfl rfl 3 (by decide) (htb _ tw_179) (fun _ h9 => h9) rfl d_S_groupsStand_1 ?_
  refine lv_iconst (v := 0) hx hb d_S_groupsStand_4 (by decide) ?_
  obtain ⟨tk_1, hc_2, hf⟩ := bd1_s hf
  refine ucSv (As := [.ref (h 7), .int ((0 : Int32))]) (rest := []) ⟨hx, hb, hml, hown, htb⟩ hK hP hD hS hA (fun hs => c_J_fill7 hc_2) (va_cwS 2 htb (gS tw_345 tw_346 tw_75 tw_347) rfl rfl rfl (by decide +kernel) ⟨Nat.le_of_ble_eq_true rfl, Nat.le_of_ble_eq_true rfl⟩) rfl rfl hl.1 (Nat.le_of_ble_eq_true rfl) d_S_groupsStand_5 ⟨Nat.zero_le _, Nat.zero_le _⟩ (fun H locs hP hD hS => ?_)
  refine lv_iconst (v := 0) hx hb d_S_groupsStand_8 (by decide) ?_
  refine lv_istore_n (lv' := [(1, .int ((0 : Int32))), (0, .ref (h 6))]) hx hb d_S_groupsStand_9 rfl hl (by decide) rfl (fun ls hl => ?_)
  exact hj_10 N mb tk_1 ((0 : Int32)) _ _ _ hf hP hD hS (lv_sub hl [1, 0] rfl)
set_option maxHeartbeats 4000000 in
set_option maxRecDepth 100000 in
theorem c_S_spareAreZero {l : Launch} {dC : Nat → ClassId} {dI : Nat → Nat → Nat} {N : Nat} {h : Nat → Nat} {cI : ClassId} {cL : ClassId} {NW : Nat} {bk : Int32} {sz : Int32} {wd : Nat → Int64} {mb : Nat → Int32} {gB : Int32} {gI : Int32} {gN : Int32} {iN : Int32} {dr : Int32} {es : Int64} {of : Int64} {od : Int32} {pl : Int64} {hd : Int64} {tk : Nat → Int32} {kn : Nat → Int32} {li : Nat → Int32} {pa : Nat → Int32} {ins : Nat → Int32} {cm : Int32} {fd : Int32} {hr : Int32} {hs : Nat} {a1 : Int32} {a2 : Int32} {r : Int32} (hf : f_S_spareAreZero N NW sz wd mb gI a1 a2 = some (r)) : Met l y_S_spareAreZero ws_S_spareAreZero { frames := 1, cells := 0, slots := 0, locals := 27 } (PcU (dC, dI) clAll [(cI, .int), (cL, .long)] (wC h cI cL NW bk sz wd mb gB gI gN iN dr es of od pl hd tk kn li pa ins cm fd hr) hs [.ref (h 6), .int a1, .int a2]) (QUi (dC, dI) clAll [(cI, .int), (cL, .long)] (wC h cI cL NW bk sz wd mb gB gI gN iN dr es of od pl hd tk kn li pa ins cm fd hr) (wC h cI cL NW bk sz wd mb gB gI gN iN dr es of od pl hd tk kn li pa ins cm fd hr) hs r) 0 0 (va_A (wC h cI cL NW bk sz wd mb gB gI gN iN dr es of od pl hd tk kn li pa ins cm fd hr) hs) := by
  refine mUz (cc := b_S_spareAreZero) (maxL := 6) (by decide) rfl (Nat.le_of_ble_eq_true rfl) ?_
  intro p e s m args below meth c Q hx hb hml hts hown A hA hK hP hD hS hret ls hl
  have htb : ∀ w ∈ TB, w.before args s = true := fun w h => hts w (List.mem_cons_of_mem _ h)
  have hl : lv_has ls 6 [(0, .ref (h 6)), (1, .int a1), (2, .int a2)] := hl
  have hj_100 : ∀ (x3 : Int64) (H : Heap) (locs : List Loc) (ls : Array Slot), f_S_spareAreZero_100 N NW sz wd mb gI x3 = some (r) → va_P (dC, dI) clAll (wC h cI cL NW bk sz wd mb gB gI gN iN dr es of od pl hd tk kn li pa ins cm fd hr) H → va_D A (wC h cI cL NW bk sz wd mb gB gI gN iN dr es of od pl hd tk kn li pa ins cm fd hr) → va_S A s.heap H locs → lv_has ls 6 [(0, .ref (h 6)), (3, .long x3)] → W p l e (headSpec ws_S_spareAreZero { frames := 1, cells := 0, slots := 0, locals := 27 }).room s m args below meth c H locs 0 0 Q (F0 m 100 ls []) := by
    intro x3 H locs ls hf hP hD hS hl
    unfold f_S_spareAreZero_100 at hf
    refine lv_aload_n hx hb d_S_spareAreZero_100 rfl (lv_at hl 0 rfl) ?_
    refine va_get (D := (dC, dI)) (ci := 3) (v := .ref (h 1)) (C := R_S) (T := T_S) (N := 10) hx hb htb in_S hown hK hP 6 rfl rfl 0 (by decide) (htb _ tw_176) (fun _ h9 => h9) rfl d_S_spareAreZero_101 ?_
    refine lv_lload_n hx hb d_S_spareAreZero_104 rfl (lv_at hl 1 rfl) ?_
    refine lv_ldc2 (v := 96) hx hb hown (htb _ tw_413) d_S_spareAreZero_105 ?_
    refine lv_ladd hx hb d_S_spareAreZero_108 ?_
    refine lv_iconst (v := 4) hx hb d_S_spareAreZero_109 (by decide) ?_
    obtain ⟨r_1, hc_2, hf⟩ := bd1_s hf
    refine ucVl (As := [.long (x3 + ((96 : Int64))), .int ((4 : Int32))]) (rest := []) ⟨hx, hb, hml, hown, htb⟩ hK hP hD hS hA (fun hs => c_D_number hc_2) (cwV 2 htb (gV tw_308 tw_264 tw_265 tw_69 tw_266) rfl rfl rfl (by decide +kernel) ⟨Nat.le_of_ble_eq_true rfl, Nat.le_of_ble_eq_true rfl⟩) 1 0 rfl rfl rfl rfl rfl hl.1 (Nat.le_of_ble_eq_true rfl) d_S_spareAreZero_110 ⟨Nat.zero_le _, Nat.zero_le _⟩ (fun H locs hP hD hS => ?_)
    refine lv_lconst (v := 0) hx hb d_S_spareAreZero_113 (by decide) ?_
    refine lc_ne (tgt := 122) hx hb d_S_spareAreZero_114 d_S_spareAreZero_115 (by decide) (fun c_3 => ?_) (fun c_3 => ?_)
    · have hf := ite_f c_3 hf
      refine lv_iconst (v := 0) hx hb d_S_spareAreZero_122 (by decide) ?_
      cases hf
      exact hret _ _ _ _ (Or.inl rfl) hP hD hS d_S_spareAreZero_123
    · have hf := ite_t c_3 hf
      refine lv_iconst (v := 1) hx hb d_S_spareAreZero_118 (by decide) ?_
      refine lv_goto (tgt := 123) hx hb d_S_spareAreZero_119 (by decide) ?_
      cases hf
      exact hret _ _ _ _ (Or.inr rfl) hP hD hS d_S_spareAreZero_123
  have hj_75 : ∀ (x2 : Int32) (x3 : Int64) (H : Heap) (locs : List Loc) (ls : Array Slot), f_S_spareAreZero_75 N NW sz wd mb gI x2 x3 = some (r) → va_P (dC, dI) clAll (wC h cI cL NW bk sz wd mb gB gI gN iN dr es of od pl hd tk kn li pa ins cm fd hr) H → va_D A (wC h cI cL NW bk sz wd mb gB gI gN iN dr es of od pl hd tk kn li pa ins cm fd hr) → va_S A s.heap H locs → lv_has ls 6 [(0, .ref (h 6)), (2, .int x2), (3, .long x3)] → W p l e (headSpec ws_S_spareAreZero { frames := 1, cells := 0, slots := 0, locals := 27 }).room s m args below meth c H locs 0 0 Q (F0 m 75 ls []) := by
    intro x2 x3 H locs ls hf hP hD hS hl
    unfold f_S_spareAreZero_75 at hf
    refine lv_iload_n hx hb d_S_spareAreZero_75 rfl (lv_at hl 1 rfl) ?_
    refine lv_sipush (v := 268) hx hb d_S_spareAreZero_76 (by decide) ?_
    refine lv_icmp_gt (tgt := 100) hx hb d_S_spareAreZero_79 (by decide) (fun c_1 => ?_) (fun c_1 => ?_)
    · have hf := ite_t c_1 hf
      exact hj_100 x3 _ _ _ hf hP hD hS (lv_sub hl [0, 2] rfl)
    · have hf := ite_f c_1 hf
      refine lv_aload_n hx hb d_S_spareAreZero_82 rfl (lv_at hl 0 rfl) ?_
      refine va_get (D := (dC, dI)) (ci := 3) (v := .ref (h 1)) (C := R_S) (T := T_S) (N := 10) hx hb htb in_S hown hK hP 6 rfl rfl 0 (by decide) (htb _ tw_176) (fun _ h9 => h9) rfl d_S_spareAreZero_83 ?_
      refine lv_lload_n hx hb d_S_spareAreZero_86 rfl (lv_at hl 2 rfl) ?_
      refine lv_ldc2 (v := 92) hx hb hown (htb _ tw_412) d_S_spareAreZero_87 ?_
      refine lv_ladd hx hb d_S_spareAreZero_90 ?_
      refine lv_iconst (v := 4) hx hb d_S_spareAreZero_91 (by decide) ?_
      obtain ⟨r_2, hc_3, hf⟩ := bd1_s hf
      refine ucVl (As := [.long (x3 + ((92 : Int64))), .int ((4 : Int32))]) (rest := []) ⟨hx, hb, hml, hown, htb⟩ hK hP hD hS hA (fun hs => c_D_number hc_3) (cwV 2 htb (gV tw_308 tw_264 tw_265 tw_69 tw_266) rfl rfl rfl (by decide +kernel) ⟨Nat.le_of_ble_eq_true rfl, Nat.le_of_ble_eq_true rfl⟩) 1 0 rfl rfl rfl rfl rfl hl.1 (Nat.le_of_ble_eq_true rfl) d_S_spareAreZero_92 ⟨Nat.zero_le _, Nat.zero_le _⟩ (fun H locs hP hD hS => ?_)
      refine lv_lconst (v := 0) hx hb d_S_spareAreZero_95 (by decide) ?_
      refine lc_ne (tgt := 122) hx hb d_S_spareAreZero_96 d_S_spareAreZero_97 (by decide) (fun c_4 => ?_) (fun c_4 => ?_)
      · have hf := ite_f c_4 hf
        refine lv_iconst (v := 0) hx hb d_S_spareAreZero_122 (by decide) ?_
        cases hf
        exact hret _ _ _ _ (Or.inl rfl) hP hD hS d_S_spareAreZero_123
      · have hf := ite_t c_4 hf
        exact hj_100 x3 _ _ _ hf hP hD hS (lv_sub hl [0, 2] rfl)
  have hj_12 : ∀ (k_12 : Nat) (x2 : Int32) (x3 : Int64) (x5 : Int32) (H : Heap) (locs : List Loc) (ls : Array Slot), f_S_spareAreZero_12 N NW sz wd mb gI k_12 x2 x3 x5 = some (r) → va_P (dC, dI) clAll (wC h cI cL NW bk sz wd mb gB gI gN iN dr es of od pl hd tk kn li pa ins cm fd hr) H → va_D A (wC h cI cL NW bk sz wd mb gB gI gN iN dr es of od pl hd tk kn li pa ins cm fd hr) → va_S A s.heap H locs → lv_has ls 6 [(0, .ref (h 6)), (2, .int x2), (3, .long x3), (5, .int x5)] → W p l e (headSpec ws_S_spareAreZero { frames := 1, cells := 0, slots := 0, locals := 27 }).room s m args below meth c H locs 0 0 Q (F0 m 12 ls []) := by
    intro k_12
    induction k_12 with
    | zero => intro _ _ _ _ _ _ hf; exact absurd hf (by simp [f_S_spareAreZero_12])
    | succ k_12 ih_12 =>
      intro x2 x3 x5 H locs ls hf hP hD hS hl
      rw [f_S_spareAreZero_12] at hf
      refine lv_iload hx hb d_S_spareAreZero_12 (lv_at hl 3 rfl) ?_
      refine lv_bipush (v := 12) hx hb d_S_spareAreZero_14 (by decide) ?_
      refine lv_icmp_ge (tgt := 51) hx hb d_S_spareAreZero_16 (by decide) (fun c_1 => ?_) (fun c_1 => ?_)
      · have hf := ite_t c_1 hf
        refine lv_iload_n hx hb d_S_spareAreZero_51 rfl (lv_at hl 1 rfl) ?_
        refine lv_bipush (v := 12) hx hb d_S_spareAreZero_52 (by decide) ?_
        refine lv_icmp_gt (tgt := 75) hx hb d_S_spareAreZero_54 (by decide) (fun c_2 => ?_) (fun c_2 => ?_)
        · have hf := ite_t c_2 hf
          exact hj_75 x2 x3 _ _ _ hf hP hD hS (lv_sub hl [0, 1, 2] rfl)
        · have hf := ite_f c_2 hf
          refine lv_aload_n hx hb d_S_spareAreZero_57 rfl (lv_at hl 0 rfl) ?_
          refine va_get (D := (dC, dI)) (ci := 3) (v := .ref (h 1)) (C := R_S) (T := T_S) (N := 10) hx hb htb in_S hown hK hP 6 rfl rfl 0 (by decide) (htb _ tw_176) (fun _ h9 => h9) rfl d_S_spareAreZero_58 ?_
          refine lv_lload_n hx hb d_S_spareAreZero_61 rfl (lv_at hl 2 rfl) ?_
          refine lv_ldc2 (v := 88) hx hb hown (htb _ tw_411) d_S_spareAreZero_62 ?_
          refine lv_ladd hx hb d_S_spareAreZero_65 ?_
          refine lv_iconst (v := 4) hx hb d_S_spareAreZero_66 (by decide) ?_
          obtain ⟨r_3, hc_4, hf⟩ := bd1_s hf
          refine ucVl (As := [.long (x3 + ((88 : Int64))), .int ((4 : Int32))]) (rest := []) ⟨hx, hb, hml, hown, htb⟩ hK hP hD hS hA (fun hs => c_D_number hc_4) (cwV 2 htb (gV tw_308 tw_264 tw_265 tw_69 tw_266) rfl rfl rfl (by decide +kernel) ⟨Nat.le_of_ble_eq_true rfl, Nat.le_of_ble_eq_true rfl⟩) 1 0 rfl rfl rfl rfl rfl hl.1 (Nat.le_of_ble_eq_true rfl) d_S_spareAreZero_67 ⟨Nat.zero_le _, Nat.zero_le _⟩ (fun H locs hP hD hS => ?_)
          refine lv_lconst (v := 0) hx hb d_S_spareAreZero_70 (by decide) ?_
          refine lc_ne (tgt := 122) hx hb d_S_spareAreZero_71 d_S_spareAreZero_72 (by decide) (fun c_5 => ?_) (fun c_5 => ?_)
          · have hf := ite_f c_5 hf
            refine lv_iconst (v := 0) hx hb d_S_spareAreZero_122 (by decide) ?_
            cases hf
            exact hret _ _ _ _ (Or.inl rfl) hP hD hS d_S_spareAreZero_123
          · have hf := ite_t c_5 hf
            exact hj_75 x2 x3 _ _ _ hf hP hD hS (lv_sub hl [0, 1, 2] rfl)
      · have hf := ite_f c_1 hf
        refine lv_aload_n hx hb d_S_spareAreZero_19 rfl (lv_at hl 0 rfl) ?_
        refine va_get (D := (dC, dI)) (ci := 3) (v := .ref (h 1)) (C := R_S) (T := T_S) (N := 10) hx hb htb in_S hown hK hP 6 rfl rfl 0 (by decide) (htb _ tw_176) (fun _ h9 => h9) rfl d_S_spareAreZero_20 ?_
        refine lv_lload_n hx hb d_S_spareAreZero_23 rfl (lv_at hl 2 rfl) ?_
        refine lv_ldc2 (v := 40) hx hb hown (htb _ tw_410) d_S_spareAreZero_24 ?_
        refine lv_ladd hx hb d_S_spareAreZero_27 ?_
        refine lv_iconst (v := 4) hx hb d_S_spareAreZero_28 (by decide) ?_
        refine lv_iload hx hb d_S_spareAreZero_29 (lv_at hl 3 rfl) ?_
        refine lv_imul hx hb d_S_spareAreZero_31 ?_
        refine lv_i2l hx hb d_S_spareAreZero_32 rfl ?_
        refine lv_ladd hx hb d_S_spareAreZero_33 ?_
        refine lv_iconst (v := 4) hx hb d_S_spareAreZero_34 (by decide) ?_
        obtain ⟨r_6, hc_7, hf⟩ := bd1_s hf
        refine ucVl (As := [.long ((x3 + ((40 : Int64))) + (Int32.toInt64 (((4 : Int32)) * x5))), .int ((4 : Int32))]) (rest := []) ⟨hx, hb, hml, hown, htb⟩ hK hP hD hS hA (fun hs => c_D_number hc_7) (cwV 2 htb (gV tw_308 tw_264 tw_265 tw_69 tw_266) rfl rfl rfl (by decide +kernel) ⟨Nat.le_of_ble_eq_true rfl, Nat.le_of_ble_eq_true rfl⟩) 1 0 rfl rfl rfl rfl rfl hl.1 (Nat.le_of_ble_eq_true rfl) d_S_spareAreZero_35 ⟨Nat.zero_le _, Nat.zero_le _⟩ (fun H locs hP hD hS => ?_)
        refine lv_lconst (v := 0) hx hb d_S_spareAreZero_38 (by decide) ?_
        refine lc_eq (tgt := 45) hx hb d_S_spareAreZero_39 d_S_spareAreZero_40 (by decide) (fun c_8 => ?_) (fun c_8 => ?_)
        · have hf := ite_t c_8 hf
          obtain ⟨v5_9, ev5_9, hf⟩ := lt1_s hf
          refine lv_iinc (v := v5_9) (lv' := [(5, .int v5_9), (0, .ref (h 6)), (2, .int x2), (3, .long x3)]) hx hb d_S_spareAreZero_45 hl (k := 3) rfl (by rw [← ev5_9]; rfl) (by decide) rfl (fun ls hl => ?_)
          refine lv_goto (tgt := 12) hx hb d_S_spareAreZero_48 (by decide) ?_
          exact ih_12 x2 x3 v5_9 _ _ _ hf hP hD hS (lv_sub hl [1, 2, 3, 0] rfl)
        · have hf := ite_f c_8 hf
          refine lv_iconst (v := 0) hx hb d_S_spareAreZero_43 (by decide) ?_
          cases hf
          exact hret _ _ _ _ (Or.inl rfl) hP hD hS d_S_spareAreZero_44
  unfold f_S_spareAreZero at hf
  refine lv_aload_n hx hb d_S_spareAreZero_0 rfl (lv_at hl 0 rfl) ?_
  refine va_get (D := (dC, dI)) (ci := 3) (v := .ref (h 3)) (C := R_S) (T := T_S) (N := 10) hx hb htb in_S hown hK hP 6 rfl rfl 1 (by decide) (htb _ tw_177) (fun _ h9 => h9) rfl d_S_spareAreZero_1 ?_
  refine lv_iload_n hx hb d_S_spareAreZero_4 rfl (lv_at hl 1 rfl) ?_
  obtain ⟨r_1, hc_2, hf⟩ := bd1_s hf
  refine ucVl (As := [.int a1]) (rest := []) ⟨hx, hb, hml, hown, htb⟩ hK hP hD hS hA (fun hs => c_L_inodePlace hc_2) (cwV 1 htb (gV tw_409 tw_383 tw_384 tw_71 tw_385) rfl rfl rfl (by decide +kernel) ⟨Nat.le_of_ble_eq_true rfl, Nat.le_of_ble_eq_true rfl⟩) 3 2 rfl rfl rfl rfl rfl hl.1 (Nat.le_of_ble_eq_true rfl) d_S_spareAreZero_5 ⟨Nat.zero_le _, Nat.zero_le _⟩ (fun H locs hP hD hS => ?_)
  refine lv_lstore_n (lv' := [(3, .long r_1), (0, .ref (h 6)), (1, .int a1), (2, .int a2)]) hx hb d_S_spareAreZero_8 rfl hl (by decide) rfl (fun ls hl => ?_)
  refine lv_iload_n hx hb d_S_spareAreZero_9 rfl (lv_at hl 3 rfl) ?_
  refine lv_istore (lv' := [(5, .int a2), (3, .long r_1), (0, .ref (h 6)), (1, .int a1), (2, .int a2)]) hx hb d_S_spareAreZero_10 hl (by decide) rfl (fun ls hl => ?_)
  exact hj_12 N a2 r_1 a2 _ _ _ hf hP hD hS (lv_sub hl [2, 4, 1, 0] rfl)
set_option maxHeartbeats 4000000 in
set_option maxRecDepth 100000 in
theorem c_S_take {l : Launch} {dC : Nat → ClassId} {dI : Nat → Nat → Nat} {h : Nat → Nat} {cI : ClassId} {cL : ClassId} {NW : Nat} {bk : Int32} {sz : Int32} {wd : Nat → Int64} {mb : Nat → Int32} {gB : Int32} {gI : Int32} {gN : Int32} {iN : Int32} {dr : Int32} {es : Int64} {of : Int64} {od : Int32} {pl : Int64} {hd : Int64} {tk : Nat → Int32} {kn : Nat → Int32} {li : Nat → Int32} {pa : Nat → Int32} {ins : Nat → Int32} {cm : Int32} {fd : Int32} {hr : Int32} {hs : Nat} {a1 : Int64} {r : Int32} {tk' : Nat → Int32} (hf : f_S_take NW bk tk a1 = some (r, tk')) : Met l y_S_take ws_S_take { frames := 1, cells := 0, slots := 0, locals := 20 } (PcU (dC, dI) clAll [(cI, .int), (cL, .long)] (wC h cI cL NW bk sz wd mb gB gI gN iN dr es of od pl hd tk kn li pa ins cm fd hr) hs [.ref (h 6), .long a1]) (QUi (dC, dI) clAll [(cI, .int), (cL, .long)] (wC h cI cL NW bk sz wd mb gB gI gN iN dr es of od pl hd tk kn li pa ins cm fd hr) (wC h cI cL NW bk sz wd mb gB gI gN iN dr es of od pl hd tk' kn li pa ins cm fd hr) hs r) 0 0 (va_A (wC h cI cL NW bk sz wd mb gB gI gN iN dr es of od pl hd tk kn li pa ins cm fd hr) hs) := by
  refine mUz (cc := b_S_take) (maxL := 4) (by decide) rfl (Nat.le_of_ble_eq_true rfl) ?_
  intro p e s m args below meth c Q hx hb hml hts hown A hA hK hP hD hS hret ls hl
  have htb : ∀ w ∈ TB, w.before args s = true := fun w h => hts w (List.mem_cons_of_mem _ h)
  have hl : lv_has ls 4 [(0, .ref (h 6)), (1, .long a1)] := hl
  unfold f_S_take at hf
  refine lv_lload_n hx hb d_S_take_0 rfl (lv_at hl 1 rfl) ?_
  refine lv_lconst (v := 1) hx hb d_S_take_1 (by decide) ?_
  refine lc_lt (tgt := 30) hx hb d_S_take_2 d_S_take_3 (by decide) (fun c_1 => ?_) (fun c_1 => ?_)
  · have hf := ite_t c_1 hf
    refine lv_iconst (v := 0) hx hb d_S_take_30 (by decide) ?_
    cases hf
    exact hret _ _ _ _ (Or.inl rfl) hP hD hS d_S_take_31
  · have hf := ite_f c_1 hf
    refine lv_lload_n hx hb d_S_take_6 rfl (lv_at hl 1 rfl) ?_
    refine lv_aload_n hx hb d_S_take_7 rfl (lv_at hl 0 rfl) ?_
    refine va_get (D := (dC, dI)) (ci := 3) (v := .ref (h 1)) (C := R_S) (T := T_S) (N := 10) hx hb htb in_S hown hK hP 6 rfl rfl 0 (by decide) (htb _ tw_176) (fun _ h9 => h9) rfl d_S_take_8 ?_
    obtain ⟨r_2, hc_3, hf⟩ := bd1_s hf
    refine ucVi (As := []) (rest := [.long a1]) ⟨hx, hb, hml, hown, htb⟩ hK hP hD hS hA (fun hs => c_D_blocks hc_3) (cwV 0 htb (gV tw_309 tw_297 tw_298 tw_69 tw_299) rfl rfl rfl (by decide +kernel) ⟨Nat.le_of_ble_eq_true rfl, Nat.le_of_ble_eq_true rfl⟩) 1 0 rfl rfl rfl rfl rfl hl.1 (Nat.le_of_ble_eq_true rfl) d_S_take_11 ⟨Nat.zero_le _, Nat.zero_le _⟩ (fun H locs hP hD hS => ?_)
    refine lv_i2l hx hb d_S_take_14 rfl ?_
    refine lc_ge (tgt := 30) hx hb d_S_take_15 d_S_take_16 (by decide) (fun c_4 => ?_) (fun c_4 => ?_)
    · have hf := ite_t c_4 hf
      refine lv_iconst (v := 0) hx hb d_S_take_30 (by decide) ?_
      cases hf
      exact hret _ _ _ _ (Or.inl rfl) hP hD hS d_S_take_31
    · have hf := ite_f c_4 hf
      refine lv_lload_n hx hb d_S_take_19 rfl (lv_at hl 1 rfl) ?_
      refine lv_aload_n hx hb d_S_take_20 rfl (lv_at hl 0 rfl) ?_
      refine va_get (D := (dC, dI)) (ci := 3) (v := .ref (h 7)) (C := R_S) (T := T_S) (N := 10) hx hb htb in_S hown hK hP 6 rfl rfl 3 (by decide) (htb _ tw_179) (fun _ h9 => h9) rfl d_S_take_21 ?_
      refine va_alen (v := (512 : Int32)) hx hb hK hP 7 0 rfl rfl rfl d_S_take_24 ?_
      refine lv_i2l hx hb d_S_take_25 rfl ?_
      refine lc_lt (tgt := 32) hx hb d_S_take_26 d_S_take_27 (by decide) (fun c_5 => ?_) (fun c_5 => ?_)
      · have hf := ite_t c_5 hf
        refine lv_lload_n hx hb d_S_take_32 rfl (lv_at hl 1 rfl) ?_
        refine lv_l2i hx hb d_S_take_33 rfl ?_
        obtain ⟨v3_6, ev3_6, hf⟩ := lt1_s hf
        refine lv_eqi ev3_6 ?_
        refine lv_istore_n (lv' := [(3, .int v3_6), (0, .ref (h 6)), (1, .long a1)]) hx hb d_S_take_34 rfl hl (by decide) rfl (fun ls hl => ?_)
        refine lv_aload_n hx hb d_S_take_35 rfl (lv_at hl 1 rfl) ?_
        refine va_get (D := (dC, dI)) (ci := 3) (v := .ref (h 7)) (C := R_S) (T := T_S) (N := 10) hx hb htb in_S hown hK hP 6 rfl rfl 3 (by decide) (htb _ tw_179) (fun _ h9 => h9) rfl d_S_take_36 ?_
        refine lv_iload_n hx hb d_S_take_39 rfl (lv_at hl 0 rfl) ?_
        obtain ⟨c_7, hf⟩ := gd_s hf
        refine va_iald (i := v3_6) hx hb hK hP 7 0 rfl rfl c_7 d_S_take_40 ?_
        refine lv_if_eq (tgt := 46) hx hb d_S_take_41 (by decide) (fun c_8 => ?_) (fun c_8 => ?_)
        · have hf := ite_t c_8 hf
          refine lv_aload_n hx hb d_S_take_46 rfl (lv_at hl 1 rfl) ?_
          refine va_get (D := (dC, dI)) (ci := 3) (v := .ref (h 7)) (C := R_S) (T := T_S) (N := 10) hx hb htb in_S hown hK hP 6 rfl rfl 3 (by decide) (htb _ tw_179) (fun _ h9 => h9) rfl d_S_take_47 ?_
          refine lv_iload_n hx hb d_S_take_50 rfl (lv_at hl 0 rfl) ?_
          refine lv_iconst (v := 1) hx hb d_S_take_51 (by decide) ?_
          obtain ⟨c_9, hf⟩ := gd_s hf
          refine va_iast (i := v3_6) (x := (1 : Int32)) hx hb hK hP hD hS 7 0 rfl rfl c_9 d_S_take_52 (fun H locs hP hD hS => ?_)
          obtain ⟨tk_10, etk_10, hf⟩ := lt1_s hf
          have hP : va_P (dC, dI) clAll (wC h cI cL NW bk sz wd mb gB gI gN iN dr es of od pl hd tk_10 kn li pa ins cm fd hr) H := etk_10 ▸ hP
          have hD : va_D A (wC h cI cL NW bk sz wd mb gB gI gN iN dr es of od pl hd tk_10 kn li pa ins cm fd hr) := etk_10 ▸ hD
          refine lv_iconst (v := 1) hx hb d_S_take_53 (by decide) ?_
          cases hf
          exact hret _ _ _ _ (Or.inr rfl) hP hD hS d_S_take_54
        · have hf := ite_f c_8 hf
          refine lv_iconst (v := 0) hx hb d_S_take_44 (by decide) ?_
          cases hf
          exact hret _ _ _ _ (Or.inl rfl) hP hD hS d_S_take_45
      · have hf := ite_f c_5 hf
        refine lv_iconst (v := 0) hx hb d_S_take_30 (by decide) ?_
        cases hf
        exact hret _ _ _ _ (Or.inl rfl) hP hD hS d_S_take_31
set_option maxHeartbeats 4000000 in
set_option maxRecDepth 100000 in
theorem c_S_takeWhole {l : Launch} {dC : Nat → ClassId} {dI : Nat → Nat → Nat} {N : Nat} {h : Nat → Nat} {cI : ClassId} {cL : ClassId} {NW : Nat} {bk : Int32} {sz : Int32} {wd : Nat → Int64} {mb : Nat → Int32} {gB : Int32} {gI : Int32} {gN : Int32} {iN : Int32} {dr : Int32} {es : Int64} {of : Int64} {od : Int32} {pl : Int64} {hd : Int64} {tk : Nat → Int32} {kn : Nat → Int32} {li : Nat → Int32} {pa : Nat → Int32} {ins : Nat → Int32} {cm : Int32} {fd : Int32} {hr : Int32} {hs : Nat} {a1 : Int32} {r : Int32} {tk' : Nat → Int32} (hf : f_S_takeWhole N NW bk sz wd mb gI tk a1 = some (r, tk')) : Met l y_S_takeWhole ws_S_takeWhole { frames := 2, cells := 0, slots := 0, locals := 56 } (PcU (dC, dI) clAll [(cI, .int), (cL, .long)] (wC h cI cL NW bk sz wd mb gB gI gN iN dr es of od pl hd tk kn li pa ins cm fd hr) hs [.ref (h 6), .int a1]) (QUi (dC, dI) clAll [(cI, .int), (cL, .long)] (wC h cI cL NW bk sz wd mb gB gI gN iN dr es of od pl hd tk kn li pa ins cm fd hr) (wC h cI cL NW bk sz wd mb gB gI gN iN dr es of od pl hd tk' kn li pa ins cm fd hr) hs r) 0 0 (va_A (wC h cI cL NW bk sz wd mb gB gI gN iN dr es of od pl hd tk kn li pa ins cm fd hr) hs) := by
  refine mUz (cc := b_S_takeWhole) (maxL := 10) (by decide) rfl (Nat.le_of_ble_eq_true rfl) ?_
  intro p e s m args below meth c Q hx hb hml hts hown A hA hK hP hD hS hret ls hl
  have htb : ∀ w ∈ TB, w.before args s = true := fun w h => hts w (List.mem_cons_of_mem _ h)
  have hl : lv_has ls 10 [(0, .ref (h 6)), (1, .int a1)] := hl
  have hj_241 : ∀ (k_241 : Nat) (tk : Nat → Int32) (x1 : Int32) (x4 : Int32) (x9 : Int32) (H : Heap) (locs : List Loc) (ls : Array Slot), f_S_takeWhole_241 N NW bk sz wd mb gI k_241 tk x1 x4 x9 = some (r, tk') → va_P (dC, dI) clAll (wC h cI cL NW bk sz wd mb gB gI gN iN dr es of od pl hd tk kn li pa ins cm fd hr) H → va_D A (wC h cI cL NW bk sz wd mb gB gI gN iN dr es of od pl hd tk kn li pa ins cm fd hr) → va_S A s.heap H locs → lv_has ls 10 [(0, .ref (h 6)), (1, .int x1), (4, .int x4), (9, .int x9)] → W p l e (headSpec ws_S_takeWhole { frames := 2, cells := 0, slots := 0, locals := 56 }).room s m args below meth c H locs 0 0 Q (F0 m 241 ls []) := by
    intro k_241
    induction k_241 with
    | zero => intro _ _ _ _ _ _ _ hf; exact absurd hf (by simp [f_S_takeWhole_241])
    | succ k_241 ih_241 =>
      intro tk x1 x4 x9 H locs ls hf hP hD hS hl
      rw [f_S_takeWhole_241] at hf
      refine lv_iload hx hb d_S_takeWhole_241 (lv_at hl 3 rfl) ?_
      refine lv_iload hx hb d_S_takeWhole_243 (lv_at hl 2 rfl) ?_
      refine lv_icmp_ge (tgt := 273) hx hb d_S_takeWhole_245 (by decide) (fun c_1 => ?_) (fun c_1 => ?_)
      · have hf := ite_t c_1 hf
        refine lv_iconst (v := 1) hx hb d_S_takeWhole_273 (by decide) ?_
        cases hf
        exact hret _ _ _ _ (Or.inr rfl) hP hD hS d_S_takeWhole_274
      · have hf := ite_f c_1 hf
        refine lv_aload_n hx hb d_S_takeWhole_248 rfl (lv_at hl 0 rfl) ?_
        refine lv_aload_n hx hb d_S_takeWhole_249 rfl (lv_at hl 0 rfl) ?_
        refine va_get (D := (dC, dI)) (ci := 3) (v := .ref (h 3)) (C := R_S) (T := T_S) (N := 10) hx hb htb in_S hown hK hP 6 rfl rfl 1 (by decide) (htb _ tw_177) (fun _ h9 => h9) rfl d_S_takeWhole_250 ?_
        refine lv_iload_n hx hb d_S_takeWhole_253 rfl (lv_at hl 1 rfl) ?_
        refine lv_iload hx hb d_S_takeWhole_254 (lv_at hl 3 rfl) ?_
        obtain ⟨r_2, hc_3, hf⟩ := bd1_s hf
        refine ucVl (As := [.int x1, .int x9]) (rest := [.ref (h 6)]) ⟨hx, hb, hml, hown, htb⟩ hK hP hD hS hA (fun hs => c_L_blockOf hc_3) (cwV 2 htb (gV tw_418 tw_419 tw_420 tw_71 tw_421) rfl rfl rfl (by decide +kernel) ⟨Nat.le_of_ble_eq_true rfl, Nat.le_of_ble_eq_true rfl⟩) 3 2 rfl rfl rfl rfl rfl hl.1 (Nat.le_of_ble_eq_true rfl) d_S_takeWhole_256 ⟨Nat.zero_le _, Nat.zero_le _⟩ (fun H locs hP hD hS => ?_)
        obtain ⟨r_4, tk_5, hc_6, hf⟩ := bd2_s hf
        refine ucVi (As := [.long r_2]) (rest := []) ⟨hx, hb, hml, hown, htb⟩ hK hP hD hS hA (fun hs => c_S_take hc_6) (cwV 1 htb (gV tw_414 tw_416 tw_10 tw_73 tw_417) rfl rfl rfl (by decide +kernel) ⟨Nat.le_of_ble_eq_true rfl, Nat.le_of_ble_eq_true rfl⟩) 6 3 rfl rfl rfl rfl rfl hl.1 (Nat.le_of_ble_eq_true rfl) d_S_takeWhole_259 ⟨Nat.zero_le _, Nat.zero_le _⟩ (fun H locs hP hD hS => ?_)
        refine lv_if_ne (tgt := 267) hx hb d_S_takeWhole_262 (by decide) (fun c_7 => ?_) (fun c_7 => ?_)
        · have hf := ite_f c_7 hf
          obtain ⟨v9_8, ev9_8, hf⟩ := lt1_s hf
          refine lv_iinc (v := v9_8) (lv' := [(9, .int v9_8), (0, .ref (h 6)), (1, .int x1), (4, .int x4)]) hx hb d_S_takeWhole_267 hl (k := 3) rfl (by rw [← ev9_8]; rfl) (by decide) rfl (fun ls hl => ?_)
          refine lv_goto (tgt := 241) hx hb d_S_takeWhole_270 (by decide) ?_
          exact ih_241 tk_5 x1 x4 v9_8 _ _ _ hf hP hD hS (lv_sub hl [1, 2, 3, 0] rfl)
        · have hf := ite_t c_7 hf
          refine lv_iconst (v := 0) hx hb d_S_takeWhole_265 (by decide) ?_
          cases hf
          exact hret _ _ _ _ (Or.inl rfl) hP hD hS d_S_takeWhole_266
  have hj_196 : ∀ (k_196 : Nat) (tk : Nat → Int32) (x1 : Int32) (x4 : Int32) (x5 : Int32) (x7 : Int64) (x9 : Int32) (H : Heap) (locs : List Loc) (ls : Array Slot), f_S_takeWhole_196 N NW bk sz wd mb gI k_196 tk x1 x4 x5 x7 x9 = some (r, tk') → va_P (dC, dI) clAll (wC h cI cL NW bk sz wd mb gB gI gN iN dr es of od pl hd tk kn li pa ins cm fd hr) H → va_D A (wC h cI cL NW bk sz wd mb gB gI gN iN dr es of od pl hd tk kn li pa ins cm fd hr) → va_S A s.heap H locs → lv_has ls 10 [(0, .ref (h 6)), (1, .int x1), (4, .int x4), (5, .int x5), (7, .long x7), (9, .int x9)] → W p l e (headSpec ws_S_takeWhole { frames := 2, cells := 0, slots := 0, locals := 56 }).room s m args below meth c H locs 0 0 Q (F0 m 196 ls []) := by
    intro k_196
    induction k_196 with
    | zero => intro _ _ _ _ _ _ _ _ _ hf; exact absurd hf (by simp [f_S_takeWhole_196])
    | succ k_196 ih_196 =>
      intro tk x1 x4 x5 x7 x9 H locs ls hf hP hD hS hl
      rw [f_S_takeWhole_196] at hf
      refine lv_iload hx hb d_S_takeWhole_196 (lv_at hl 5 rfl) ?_
      refine lv_iload hx hb d_S_takeWhole_198 (lv_at hl 3 rfl) ?_
      refine lv_icmp_ge (tgt := 238) hx hb d_S_takeWhole_200 (by decide) (fun c_1 => ?_) (fun c_1 => ?_)
      · have hf := ite_t c_1 hf
        refine lv_iconst (v := 0) hx hb d_S_takeWhole_238 (by decide) ?_
        refine lv_istore (lv' := [(9, .int ((0 : Int32))), (0, .ref (h 6)), (1, .int x1), (4, .int x4), (5, .int x5), (7, .long x7)]) hx hb d_S_takeWhole_239 hl (by decide) rfl (fun ls hl => ?_)
        exact hj_241 N tk x1 x4 ((0 : Int32)) _ _ _ hf hP hD hS (lv_sub hl [1, 2, 3, 0] rfl)
      · have hf := ite_f c_1 hf
        refine lv_aload_n hx hb d_S_takeWhole_203 rfl (lv_at hl 0 rfl) ?_
        refine lv_aload_n hx hb d_S_takeWhole_204 rfl (lv_at hl 0 rfl) ?_
        refine va_get (D := (dC, dI)) (ci := 3) (v := .ref (h 1)) (C := R_S) (T := T_S) (N := 10) hx hb htb in_S hown hK hP 6 rfl rfl 0 (by decide) (htb _ tw_176) (fun _ h9 => h9) rfl d_S_takeWhole_205 ?_
        refine lv_ldc2 (v := 1024) hx hb hown (htb _ tw_339) d_S_takeWhole_208 ?_
        refine lv_lload hx hb d_S_takeWhole_211 (lv_at hl 4 rfl) ?_
        refine lv_lmul hx hb d_S_takeWhole_213 ?_
        refine lv_iconst (v := 4) hx hb d_S_takeWhole_214 (by decide) ?_
        refine lv_iload hx hb d_S_takeWhole_215 (lv_at hl 5 rfl) ?_
        refine lv_imul hx hb d_S_takeWhole_217 ?_
        refine lv_i2l hx hb d_S_takeWhole_218 rfl ?_
        refine lv_ladd hx hb d_S_takeWhole_219 ?_
        refine lv_iconst (v := 4) hx hb d_S_takeWhole_220 (by decide) ?_
        obtain ⟨r_2, hc_3, hf⟩ := bd1_s hf
        refine ucVl (As := [.long ((((1024 : Int64)) * x7) + (Int32.toInt64 (((4 : Int32)) * x9))), .int ((4 : Int32))]) (rest := [.ref (h 6)]) ⟨hx, hb, hml, hown, htb⟩ hK hP hD hS hA (fun hs => c_D_number hc_3) (cwV 2 htb (gV tw_308 tw_264 tw_265 tw_69 tw_266) rfl rfl rfl (by decide +kernel) ⟨Nat.le_of_ble_eq_true rfl, Nat.le_of_ble_eq_true rfl⟩) 1 0 rfl rfl rfl rfl rfl hl.1 (Nat.le_of_ble_eq_true rfl) d_S_takeWhole_221 ⟨Nat.zero_le _, Nat.zero_le _⟩ (fun H locs hP hD hS => ?_)
        obtain ⟨r_4, tk_5, hc_6, hf⟩ := bd2_s hf
        refine ucVi (As := [.long r_2]) (rest := []) ⟨hx, hb, hml, hown, htb⟩ hK hP hD hS hA (fun hs => c_S_take hc_6) (cwV 1 htb (gV tw_414 tw_416 tw_10 tw_73 tw_417) rfl rfl rfl (by decide +kernel) ⟨Nat.le_of_ble_eq_true rfl, Nat.le_of_ble_eq_true rfl⟩) 6 3 rfl rfl rfl rfl rfl hl.1 (Nat.le_of_ble_eq_true rfl) d_S_takeWhole_224 ⟨Nat.zero_le _, Nat.zero_le _⟩ (fun H locs hP hD hS => ?_)
        refine lv_if_ne (tgt := 232) hx hb d_S_takeWhole_227 (by decide) (fun c_7 => ?_) (fun c_7 => ?_)
        · have hf := ite_f c_7 hf
          obtain ⟨v9_8, ev9_8, hf⟩ := lt1_s hf
          refine lv_iinc (v := v9_8) (lv' := [(9, .int v9_8), (0, .ref (h 6)), (1, .int x1), (4, .int x4), (5, .int x5), (7, .long x7)]) hx hb d_S_takeWhole_232 hl (k := 5) rfl (by rw [← ev9_8]; rfl) (by decide) rfl (fun ls hl => ?_)
          refine lv_goto (tgt := 196) hx hb d_S_takeWhole_235 (by decide) ?_
          exact ih_196 tk_5 x1 x4 x5 x7 v9_8 _ _ _ hf hP hD hS (lv_sub hl [1, 2, 3, 4, 5, 0] rfl)
        · have hf := ite_t c_7 hf
          refine lv_iconst (v := 0) hx hb d_S_takeWhole_230 (by decide) ?_
          cases hf
          exact hret _ _ _ _ (Or.inl rfl) hP hD hS d_S_takeWhole_231
  have hj_161 : ∀ (tk : Nat → Int32) (x1 : Int32) (x4 : Int32) (x5 : Int32) (H : Heap) (locs : List Loc) (ls : Array Slot), f_S_takeWhole_161 N NW bk sz wd mb gI tk x1 x4 x5 = some (r, tk') → va_P (dC, dI) clAll (wC h cI cL NW bk sz wd mb gB gI gN iN dr es of od pl hd tk kn li pa ins cm fd hr) H → va_D A (wC h cI cL NW bk sz wd mb gB gI gN iN dr es of od pl hd tk kn li pa ins cm fd hr) → va_S A s.heap H locs → lv_has ls 10 [(0, .ref (h 6)), (1, .int x1), (4, .int x4), (5, .int x5)] → W p l e (headSpec ws_S_takeWhole { frames := 2, cells := 0, slots := 0, locals := 56 }).room s m args below meth c H locs 0 0 Q (F0 m 161 ls []) := by
    intro tk x1 x4 x5 H locs ls hf hP hD hS hl
    unfold f_S_takeWhole_161 at hf
    refine lv_aload_n hx hb d_S_takeWhole_161 rfl (lv_at hl 0 rfl) ?_
    refine va_get (D := (dC, dI)) (ci := 3) (v := .ref (h 3)) (C := R_S) (T := T_S) (N := 10) hx hb htb in_S hown hK hP 6 rfl rfl 1 (by decide) (htb _ tw_177) (fun _ h9 => h9) rfl d_S_takeWhole_162 ?_
    refine lv_iload_n hx hb d_S_takeWhole_165 rfl (lv_at hl 1 rfl) ?_
    refine lv_bipush (v := 92) hx hb d_S_takeWhole_166 (by decide) ?_
    refine lv_iconst (v := 4) hx hb d_S_takeWhole_168 (by decide) ?_
    obtain ⟨r_1, hc_2, hf⟩ := bd1_s hf
    refine ucVl (As := [.int x1, .int ((92 : Int32)), .int ((4 : Int32))]) (rest := []) ⟨hx, hb, hml, hown, htb⟩ hK hP hD hS hA (fun hs => c_L_field hc_2) (cwV 3 htb (gV tw_401 tw_402 tw_403 tw_71 tw_404) rfl rfl rfl (by decide +kernel) ⟨Nat.le_of_ble_eq_true rfl, Nat.le_of_ble_eq_true rfl⟩) 3 2 rfl rfl rfl rfl rfl hl.1 (Nat.le_of_ble_eq_true rfl) d_S_takeWhole_169 ⟨Nat.zero_le _, Nat.zero_le _⟩ (fun H locs hP hD hS => ?_)
    refine lv_lstore (lv' := [(7, .long r_1), (0, .ref (h 6)), (1, .int x1), (4, .int x4), (5, .int x5)]) hx hb d_S_takeWhole_172 hl (by decide) rfl (fun ls hl => ?_)
    refine lv_iload hx hb d_S_takeWhole_174 (lv_at hl 3 rfl) ?_
    refine lv_sipush (v := 268) hx hb d_S_takeWhole_176 (by decide) ?_
    refine lv_icmp_le (tgt := 193) hx hb d_S_takeWhole_179 (by decide) (fun c_3 => ?_) (fun c_3 => ?_)
    · have hf := ite_t c_3 hf
      refine lv_iconst (v := 0) hx hb d_S_takeWhole_193 (by decide) ?_
      refine lv_istore (lv' := [(9, .int ((0 : Int32))), (7, .long r_1), (0, .ref (h 6)), (1, .int x1), (4, .int x4), (5, .int x5)]) hx hb d_S_takeWhole_194 hl (by decide) rfl (fun ls hl => ?_)
      exact hj_196 N tk x1 x4 x5 r_1 ((0 : Int32)) _ _ _ hf hP hD hS (lv_sub hl [2, 3, 4, 5, 1, 0] rfl)
    · have hf := ite_f c_3 hf
      refine lv_aload_n hx hb d_S_takeWhole_182 rfl (lv_at hl 1 rfl) ?_
      refine lv_lload hx hb d_S_takeWhole_183 (lv_at hl 0 rfl) ?_
      obtain ⟨r_4, tk_5, hc_6, hf⟩ := bd2_s hf
      refine ucVi (As := [.long r_1]) (rest := []) ⟨hx, hb, hml, hown, htb⟩ hK hP hD hS hA (fun hs => c_S_take hc_6) (cwV 1 htb (gV tw_414 tw_416 tw_10 tw_73 tw_417) rfl rfl rfl (by decide +kernel) ⟨Nat.le_of_ble_eq_true rfl, Nat.le_of_ble_eq_true rfl⟩) 6 3 rfl rfl rfl rfl rfl hl.1 (Nat.le_of_ble_eq_true rfl) d_S_takeWhole_185 ⟨Nat.zero_le _, Nat.zero_le _⟩ (fun H locs hP hD hS => ?_)
      refine lv_if_ne (tgt := 193) hx hb d_S_takeWhole_188 (by decide) (fun c_7 => ?_) (fun c_7 => ?_)
      · have hf := ite_f c_7 hf
        refine lv_iconst (v := 0) hx hb d_S_takeWhole_193 (by decide) ?_
        refine lv_istore (lv' := [(9, .int ((0 : Int32))), (7, .long r_1), (0, .ref (h 6)), (1, .int x1), (4, .int x4), (5, .int x5)]) hx hb d_S_takeWhole_194 hl (by decide) rfl (fun ls hl => ?_)
        exact hj_196 N tk_5 x1 x4 x5 r_1 ((0 : Int32)) _ _ _ hf hP hD hS (lv_sub hl [2, 3, 4, 5, 1, 0] rfl)
      · have hf := ite_t c_7 hf
        refine lv_iconst (v := 0) hx hb d_S_takeWhole_191 (by decide) ?_
        cases hf
        exact hret _ _ _ _ (Or.inl rfl) hP hD hS d_S_takeWhole_192
  have hj_93 : ∀ (tk : Nat → Int32) (x1 : Int32) (x4 : Int32) (x5 : Int32) (s0 : Int32) (s1 : Int32) (H : Heap) (locs : List Loc) (ls : Array Slot), f_S_takeWhole_93 N NW bk sz wd mb gI tk x1 x4 x5 s0 s1 = some (r, tk') → va_P (dC, dI) clAll (wC h cI cL NW bk sz wd mb gB gI gN iN dr es of od pl hd tk kn li pa ins cm fd hr) H → va_D A (wC h cI cL NW bk sz wd mb gB gI gN iN dr es of od pl hd tk kn li pa ins cm fd hr) → va_S A s.heap H locs → lv_has ls 10 [(0, .ref (h 6)), (1, .int x1), (4, .int x4), (5, .int x5)] → W p l e (headSpec ws_S_takeWhole { frames := 2, cells := 0, slots := 0, locals := 56 }).room s m args below meth c H locs 0 0 Q (F0 m 93 ls [.int s1, .int s0]) := by
    intro tk x1 x4 x5 s0 s1 H locs ls hf hP hD hS hl
    unfold f_S_takeWhole_93 at hf
    refine lv_iadd hx hb d_S_takeWhole_93 ?_
    refine lv_iload hx hb d_S_takeWhole_94 (lv_at hl 3 rfl) ?_
    refine lv_iadd hx hb d_S_takeWhole_96 ?_
    obtain ⟨v6_1, ev6_1, hf⟩ := lt1_s hf
    refine lv_eqi ev6_1 ?_
    refine lv_istore (lv' := [(6, .int v6_1), (0, .ref (h 6)), (1, .int x1), (4, .int x4), (5, .int x5)]) hx hb d_S_takeWhole_97 hl (by decide) rfl (fun ls hl => ?_)
    refine lv_aload_n hx hb d_S_takeWhole_99 rfl (lv_at hl 1 rfl) ?_
    refine va_get (D := (dC, dI)) (ci := 3) (v := .ref (h 3)) (C := R_S) (T := T_S) (N := 10) hx hb htb in_S hown hK hP 6 rfl rfl 1 (by decide) (htb _ tw_177) (fun _ h9 => h9) rfl d_S_takeWhole_100 ?_
    refine lv_iload_n hx hb d_S_takeWhole_103 rfl (lv_at hl 2 rfl) ?_
    refine lv_bipush (v := 28) hx hb d_S_takeWhole_104 (by decide) ?_
    refine lv_iconst (v := 4) hx hb d_S_takeWhole_106 (by decide) ?_
    obtain ⟨r_2, hc_3, hf⟩ := bd1_s hf
    refine ucVl (As := [.int x1, .int ((28 : Int32)), .int ((4 : Int32))]) (rest := []) ⟨hx, hb, hml, hown, htb⟩ hK hP hD hS hA (fun hs => c_L_field hc_3) (cwV 3 htb (gV tw_401 tw_402 tw_403 tw_71 tw_404) rfl rfl rfl (by decide +kernel) ⟨Nat.le_of_ble_eq_true rfl, Nat.le_of_ble_eq_true rfl⟩) 3 2 rfl rfl rfl rfl rfl hl.1 (Nat.le_of_ble_eq_true rfl) d_S_takeWhole_107 ⟨Nat.zero_le _, Nat.zero_le _⟩ (fun H locs hP hD hS => ?_)
    refine lv_iconst (v := 2) hx hb d_S_takeWhole_110 (by decide) ?_
    refine lv_iload hx hb d_S_takeWhole_111 (lv_at hl 3 rfl) ?_
    refine lv_iload hx hb d_S_takeWhole_113 (lv_at hl 0 rfl) ?_
    refine lv_iadd hx hb d_S_takeWhole_115 ?_
    refine lv_imul hx hb d_S_takeWhole_116 ?_
    refine lv_i2l hx hb d_S_takeWhole_117 rfl ?_
    refine lc_ne (tgt := 132) hx hb d_S_takeWhole_118 d_S_takeWhole_119 (by decide) (fun c_4 => ?_) (fun c_4 => ?_)
    · have hf := ite_f c_4 hf
      refine lv_iconst (v := 0) hx hb d_S_takeWhole_132 (by decide) ?_
      cases hf
      exact hret _ _ _ _ (Or.inl rfl) hP hD hS d_S_takeWhole_133
    · have hf := ite_t c_4 hf
      refine lv_aload_n hx hb d_S_takeWhole_122 rfl (lv_at hl 1 rfl) ?_
      refine lv_iload_n hx hb d_S_takeWhole_123 rfl (lv_at hl 2 rfl) ?_
      refine lv_iload hx hb d_S_takeWhole_124 (lv_at hl 3 rfl) ?_
      obtain ⟨r_5, hc_6, hf⟩ := bd1_s hf
      refine ucVi (As := [.int x1, .int x4]) (rest := []) ⟨hx, hb, hml, hown, htb⟩ hK hP hD hS hA (fun hs => c_S_spareAreZero hc_6) (cwV 2 htb (gV tw_405 tw_407 tw_9 tw_73 tw_408) rfl rfl rfl (by decide +kernel) ⟨Nat.le_of_ble_eq_true rfl, Nat.le_of_ble_eq_true rfl⟩) 6 3 rfl rfl rfl rfl rfl hl.1 (Nat.le_of_ble_eq_true rfl) d_S_takeWhole_126 ⟨Nat.zero_le _, Nat.zero_le _⟩ (fun H locs hP hD hS => ?_)
      refine lv_if_ne (tgt := 134) hx hb d_S_takeWhole_129 (by decide) (fun c_7 => ?_) (fun c_7 => ?_)
      · have hf := ite_f c_7 hf
        refine lv_iload hx hb d_S_takeWhole_134 (lv_at hl 3 rfl) ?_
        refine lv_bipush (v := 12) hx hb d_S_takeWhole_136 (by decide) ?_
        refine lv_icmp_le (tgt := 161) hx hb d_S_takeWhole_138 (by decide) (fun c_8 => ?_) (fun c_8 => ?_)
        · have hf := ite_t c_8 hf
          exact hj_161 tk x1 x4 x5 _ _ _ hf hP hD hS (lv_sub hl [1, 2, 3, 4] rfl)
        · have hf := ite_f c_8 hf
          refine lv_aload_n hx hb d_S_takeWhole_141 rfl (lv_at hl 1 rfl) ?_
          refine lv_aload_n hx hb d_S_takeWhole_142 rfl (lv_at hl 1 rfl) ?_
          refine va_get (D := (dC, dI)) (ci := 3) (v := .ref (h 3)) (C := R_S) (T := T_S) (N := 10) hx hb htb in_S hown hK hP 6 rfl rfl 1 (by decide) (htb _ tw_177) (fun _ h9 => h9) rfl d_S_takeWhole_143 ?_
          refine lv_iload_n hx hb d_S_takeWhole_146 rfl (lv_at hl 2 rfl) ?_
          refine lv_bipush (v := 88) hx hb d_S_takeWhole_147 (by decide) ?_
          refine lv_iconst (v := 4) hx hb d_S_takeWhole_149 (by decide) ?_
          obtain ⟨r_9, hc_10, hf⟩ := bd1_s hf
          refine ucVl (As := [.int x1, .int ((88 : Int32)), .int ((4 : Int32))]) (rest := [.ref (h 6)]) ⟨hx, hb, hml, hown, htb⟩ hK hP hD hS hA (fun hs => c_L_field hc_10) (cwV 3 htb (gV tw_401 tw_402 tw_403 tw_71 tw_404) rfl rfl rfl (by decide +kernel) ⟨Nat.le_of_ble_eq_true rfl, Nat.le_of_ble_eq_true rfl⟩) 3 2 rfl rfl rfl rfl rfl hl.1 (Nat.le_of_ble_eq_true rfl) d_S_takeWhole_150 ⟨Nat.zero_le _, Nat.zero_le _⟩ (fun H locs hP hD hS => ?_)
          obtain ⟨r_11, tk_12, hc_13, hf⟩ := bd2_s hf
          refine ucVi (As := [.long r_9]) (rest := []) ⟨hx, hb, hml, hown, htb⟩ hK hP hD hS hA (fun hs => c_S_take hc_13) (cwV 1 htb (gV tw_414 tw_416 tw_10 tw_73 tw_417) rfl rfl rfl (by decide +kernel) ⟨Nat.le_of_ble_eq_true rfl, Nat.le_of_ble_eq_true rfl⟩) 6 3 rfl rfl rfl rfl rfl hl.1 (Nat.le_of_ble_eq_true rfl) d_S_takeWhole_153 ⟨Nat.zero_le _, Nat.zero_le _⟩ (fun H locs hP hD hS => ?_)
          refine lv_if_ne (tgt := 161) hx hb d_S_takeWhole_156 (by decide) (fun c_14 => ?_) (fun c_14 => ?_)
          · have hf := ite_f c_14 hf
            exact hj_161 tk_12 x1 x4 x5 _ _ _ hf hP hD hS (lv_sub hl [1, 2, 3, 4] rfl)
          · have hf := ite_t c_14 hf
            refine lv_iconst (v := 0) hx hb d_S_takeWhole_159 (by decide) ?_
            cases hf
            exact hret _ _ _ _ (Or.inl rfl) hP hD hS d_S_takeWhole_160
      · have hf := ite_t c_7 hf
        refine lv_iconst (v := 0) hx hb d_S_takeWhole_132 (by decide) ?_
        cases hf
        exact hret _ _ _ _ (Or.inl rfl) hP hD hS d_S_takeWhole_133
  have hj_80 : ∀ (tk : Nat → Int32) (x1 : Int32) (x4 : Int32) (x5 : Int32) (s0 : Int32) (H : Heap) (locs : List Loc) (ls : Array Slot), f_S_takeWhole_80 N NW bk sz wd mb gI tk x1 x4 x5 s0 = some (r, tk') → va_P (dC, dI) clAll (wC h cI cL NW bk sz wd mb gB gI gN iN dr es of od pl hd tk kn li pa ins cm fd hr) H → va_D A (wC h cI cL NW bk sz wd mb gB gI gN iN dr es of od pl hd tk kn li pa ins cm fd hr) → va_S A s.heap H locs → lv_has ls 10 [(0, .ref (h 6)), (1, .int x1), (4, .int x4), (5, .int x5)] → W p l e (headSpec ws_S_takeWhole { frames := 2, cells := 0, slots := 0, locals := 56 }).room s m args below meth c H locs 0 0 Q (F0 m 80 ls [.int s0]) := by
    intro tk x1 x4 x5 s0 H locs ls hf hP hD hS hl
    unfold f_S_takeWhole_80 at hf
    refine lv_iload hx hb d_S_takeWhole_80 (lv_at hl 2 rfl) ?_
    refine lv_sipush (v := 268) hx hb d_S_takeWhole_82 (by decide) ?_
    refine lv_icmp_le (tgt := 92) hx hb d_S_takeWhole_85 (by decide) (fun c_1 => ?_) (fun c_1 => ?_)
    · have hf := ite_t c_1 hf
      refine lv_iconst (v := 0) hx hb d_S_takeWhole_92 (by decide) ?_
      exact hj_93 tk x1 x4 x5 s0 ((0 : Int32)) _ _ _ hf hP hD hS (lv_sub hl [0, 1, 2, 3] rfl)
    · have hf := ite_f c_1 hf
      refine lv_iconst (v := 1) hx hb d_S_takeWhole_88 (by decide) ?_
      refine lv_goto (tgt := 93) hx hb d_S_takeWhole_89 (by decide) ?_
      exact hj_93 tk x1 x4 x5 s0 ((1 : Int32)) _ _ _ hf hP hD hS (lv_sub hl [0, 1, 2, 3] rfl)
  have hj_66 : ∀ (tk : Nat → Int32) (x1 : Int32) (x4 : Int32) (s0 : Int32) (H : Heap) (locs : List Loc) (ls : Array Slot), f_S_takeWhole_66 N NW bk sz wd mb gI tk x1 x4 s0 = some (r, tk') → va_P (dC, dI) clAll (wC h cI cL NW bk sz wd mb gB gI gN iN dr es of od pl hd tk kn li pa ins cm fd hr) H → va_D A (wC h cI cL NW bk sz wd mb gB gI gN iN dr es of od pl hd tk kn li pa ins cm fd hr) → va_S A s.heap H locs → lv_has ls 10 [(0, .ref (h 6)), (1, .int x1), (4, .int x4)] → W p l e (headSpec ws_S_takeWhole { frames := 2, cells := 0, slots := 0, locals := 56 }).room s m args below meth c H locs 0 0 Q (F0 m 66 ls [.int s0]) := by
    intro tk x1 x4 s0 H locs ls hf hP hD hS hl
    unfold f_S_takeWhole_66 at hf
    refine lv_istore (lv' := [(5, .int s0), (0, .ref (h 6)), (1, .int x1), (4, .int x4)]) hx hb d_S_takeWhole_66 hl (by decide) rfl (fun ls hl => ?_)
    refine lv_iload hx hb d_S_takeWhole_68 (lv_at hl 3 rfl) ?_
    refine lv_bipush (v := 12) hx hb d_S_takeWhole_70 (by decide) ?_
    refine lv_icmp_le (tgt := 79) hx hb d_S_takeWhole_72 (by decide) (fun c_1 => ?_) (fun c_1 => ?_)
    · have hf := ite_t c_1 hf
      refine lv_iconst (v := 0) hx hb d_S_takeWhole_79 (by decide) ?_
      exact hj_80 tk x1 x4 s0 ((0 : Int32)) _ _ _ hf hP hD hS (lv_sub hl [1, 2, 3, 0] rfl)
    · have hf := ite_f c_1 hf
      refine lv_iconst (v := 1) hx hb d_S_takeWhole_75 (by decide) ?_
      refine lv_goto (tgt := 80) hx hb d_S_takeWhole_76 (by decide) ?_
      exact hj_80 tk x1 x4 s0 ((1 : Int32)) _ _ _ hf hP hD hS (lv_sub hl [1, 2, 3, 0] rfl)
  unfold f_S_takeWhole at hf
  refine lv_aload_n hx hb d_S_takeWhole_0 rfl (lv_at hl 0 rfl) ?_
  refine va_get (D := (dC, dI)) (ci := 3) (v := .ref (h 3)) (C := R_S) (T := T_S) (N := 10) hx hb htb in_S hown hK hP 6 rfl rfl 1 (by decide) (htb _ tw_177) (fun _ h9 => h9) rfl d_S_takeWhole_1 ?_
  refine lv_iload_n hx hb d_S_takeWhole_4 rfl (lv_at hl 1 rfl) ?_
  obtain ⟨r_1, hc_2, hf⟩ := bd1_s hf
  refine ucVl (As := [.int a1]) (rest := []) ⟨hx, hb, hml, hown, htb⟩ hK hP hD hS hA (fun hs => c_L_sizeOf hc_2) (cwV 1 htb (gV tw_392 tw_393 tw_394 tw_71 tw_395) rfl rfl rfl (by decide +kernel) ⟨Nat.le_of_ble_eq_true rfl, Nat.le_of_ble_eq_true rfl⟩) 3 2 rfl rfl rfl rfl rfl hl.1 (Nat.le_of_ble_eq_true rfl) d_S_takeWhole_5 ⟨Nat.zero_le _, Nat.zero_le _⟩ (fun H locs hP hD hS => ?_)
  refine lv_lstore_n (lv' := [(2, .long r_1), (0, .ref (h 6)), (1, .int a1)]) hx hb d_S_takeWhole_8 rfl hl (by decide) rfl (fun ls hl => ?_)
  refine lv_lload_n hx hb d_S_takeWhole_9 rfl (lv_at hl 0 rfl) ?_
  refine lv_ldc2 (v := 1024) hx hb hown (htb _ tw_339) d_S_takeWhole_10 ?_
  refine lv_aload_n hx hb d_S_takeWhole_13 rfl (lv_at hl 1 rfl) ?_
  refine va_get (D := (dC, dI)) (ci := 3) (v := .ref (h 1)) (C := R_S) (T := T_S) (N := 10) hx hb htb in_S hown hK hP 6 rfl rfl 0 (by decide) (htb _ tw_176) (fun _ h9 => h9) rfl d_S_takeWhole_14 ?_
  obtain ⟨r_3, hc_4, hf⟩ := bd1_s hf
  refine ucVi (As := []) (rest := [.long ((1024 : Int64)), .long r_1]) ⟨hx, hb, hml, hown, htb⟩ hK hP hD hS hA (fun hs => c_D_blocks hc_4) (cwV 0 htb (gV tw_309 tw_297 tw_298 tw_69 tw_299) rfl rfl rfl (by decide +kernel) ⟨Nat.le_of_ble_eq_true rfl, Nat.le_of_ble_eq_true rfl⟩) 1 0 rfl rfl rfl rfl rfl hl.1 (Nat.le_of_ble_eq_true rfl) d_S_takeWhole_17 ⟨Nat.zero_le _, Nat.zero_le _⟩ (fun H locs hP hD hS => ?_)
  refine lv_i2l hx hb d_S_takeWhole_20 rfl ?_
  refine lv_lmul hx hb d_S_takeWhole_21 ?_
  refine lc_le (tgt := 28) hx hb d_S_takeWhole_22 d_S_takeWhole_23 (by decide) (fun c_5 => ?_) (fun c_5 => ?_)
  · have hf := ite_t c_5 hf
    refine lv_aload_n hx hb d_S_takeWhole_28 rfl (lv_at hl 1 rfl) ?_
    refine va_get (D := (dC, dI)) (ci := 3) (v := .ref (h 3)) (C := R_S) (T := T_S) (N := 10) hx hb htb in_S hown hK hP 6 rfl rfl 1 (by decide) (htb _ tw_177) (fun _ h9 => h9) rfl d_S_takeWhole_29 ?_
    refine lv_lload_n hx hb d_S_takeWhole_32 rfl (lv_at hl 0 rfl) ?_
    obtain ⟨r_6, hc_7, hf⟩ := bd1_s hf
    refine ucVi (As := [.long r_1]) (rest := []) ⟨hx, hb, hml, hown, htb⟩ hK hP hD hS hA (fun hs => c_L_blocksFor hc_7) (cwV 1 htb (gV tw_397 tw_398 tw_399 tw_71 tw_400) rfl rfl rfl (by decide +kernel) ⟨Nat.le_of_ble_eq_true rfl, Nat.le_of_ble_eq_true rfl⟩) 3 2 rfl rfl rfl rfl rfl hl.1 (Nat.le_of_ble_eq_true rfl) d_S_takeWhole_33 ⟨Nat.zero_le _, Nat.zero_le _⟩ (fun H locs hP hD hS => ?_)
    refine lv_istore (lv' := [(4, .int r_6), (2, .long r_1), (0, .ref (h 6)), (1, .int a1)]) hx hb d_S_takeWhole_36 hl (by decide) rfl (fun ls hl => ?_)
    refine lv_iload hx hb d_S_takeWhole_38 (lv_at hl 0 rfl) ?_
    refine lv_sipush (v := 268) hx hb d_S_takeWhole_40 (by decide) ?_
    refine lv_icmp_le (tgt := 65) hx hb d_S_takeWhole_43 (by decide) (fun c_8 => ?_) (fun c_8 => ?_)
    · have hf := ite_t c_8 hf
      refine lv_iconst (v := 0) hx hb d_S_takeWhole_65 (by decide) ?_
      exact hj_66 tk a1 r_6 ((0 : Int32)) _ _ _ hf hP hD hS (lv_sub hl [2, 3, 0] rfl)
    · have hf := ite_f c_8 hf
      refine lv_iload hx hb d_S_takeWhole_46 (lv_at hl 0 rfl) ?_
      refine lv_sipush (v := 268) hx hb d_S_takeWhole_48 (by decide) ?_
      refine lv_isub hx hb d_S_takeWhole_51 ?_
      refine lv_sipush (v := 256) hx hb d_S_takeWhole_52 (by decide) ?_
      refine lv_iadd hx hb d_S_takeWhole_55 ?_
      refine lv_iconst (v := 1) hx hb d_S_takeWhole_56 (by decide) ?_
      refine lv_isub hx hb d_S_takeWhole_57 ?_
      refine lv_sipush (v := 256) hx hb d_S_takeWhole_58 (by decide) ?_
      refine lv_idiv hx hb d_S_takeWhole_61 (by decide) ?_
      refine lv_goto (tgt := 66) hx hb d_S_takeWhole_62 (by decide) ?_
      exact hj_66 tk a1 r_6 ((((r_6 - ((268 : Int32))) + ((256 : Int32))) - ((1 : Int32))) / ((256 : Int32))) _ _ _ hf hP hD hS (lv_sub hl [2, 3, 0] rfl)
  · have hf := ite_f c_5 hf
    refine lv_iconst (v := 0) hx hb d_S_takeWhole_26 (by decide) ?_
    cases hf
    exact hret _ _ _ _ (Or.inl rfl) hP hD hS d_S_takeWhole_27
set_option maxHeartbeats 4000000 in
set_option maxRecDepth 100000 in
theorem c_S_standInLine {l : Launch} {dC : Nat → ClassId} {dI : Nat → Nat → Nat} {h : Nat → Nat} {cI : ClassId} {cL : ClassId} {NW : Nat} {bk : Int32} {sz : Int32} {wd : Nat → Int64} {mb : Nat → Int32} {gB : Int32} {gI : Int32} {gN : Int32} {iN : Int32} {dr : Int32} {es : Int64} {of : Int64} {od : Int32} {pl : Int64} {hd : Int64} {tk : Nat → Int32} {kn : Nat → Int32} {li : Nat → Int32} {pa : Nat → Int32} {ins : Nat → Int32} {cm : Int32} {fd : Int32} {hr : Int32} {hs : Nat} {a1 : Int32} {a2 : Int32} {kn' : Nat → Int32} {li' : Nat → Int32} {pa' : Nat → Int32} {ins' : Nat → Int32} {cm' : Int32} (hf : f_S_standInLine NW kn li pa ins cm a1 a2 = some (kn', li', pa', ins', cm')) : Met l y_S_standInLine ws_S_standInLine { frames := 0, cells := 0, slots := 0, locals := 0 } (PcU (dC, dI) clAll [(cI, .int), (cL, .long)] (wC h cI cL NW bk sz wd mb gB gI gN iN dr es of od pl hd tk kn li pa ins cm fd hr) hs [.ref (h 6), .int a1, .int a2]) (QUv (dC, dI) clAll [(cI, .int), (cL, .long)] (wC h cI cL NW bk sz wd mb gB gI gN iN dr es of od pl hd tk kn li pa ins cm fd hr) (wC h cI cL NW bk sz wd mb gB gI gN iN dr es of od pl hd tk kn' li' pa' ins' cm' fd hr) hs) 0 0 (va_A (wC h cI cL NW bk sz wd mb gB gI gN iN dr es of od pl hd tk kn li pa ins cm fd hr) hs) := by
  refine mUv (cc := b_S_standInLine) (maxL := 3) (by decide) rfl (Nat.le_of_ble_eq_true rfl) ?_
  intro p e s m args below meth c Q hx hb hml hts hown A hA hK hP hD hS hret ls hl
  have htb : ∀ w ∈ TB, w.before args s = true := fun w h => hts w (List.mem_cons_of_mem _ h)
  have hl : lv_has ls 3 [(0, .ref (h 6)), (1, .int a1), (2, .int a2)] := hl
  unfold f_S_standInLine at hf
  refine lv_iload_n hx hb d_S_standInLine_0 rfl (lv_at hl 1 rfl) ?_
  refine lv_iconst (v := 1) hx hb d_S_standInLine_1 (by decide) ?_
  refine lv_icmp_lt (tgt := 33) hx hb d_S_standInLine_2 (by decide) (fun c_1 => ?_) (fun c_1 => ?_)
  · have hf := ite_t c_1 hf
    cases hf
    exact hret _ _ _ _ hP hD hS d_S_standInLine_33
  · have hf := ite_f c_1 hf
    refine lv_iload_n hx hb d_S_standInLine_5 rfl (lv_at hl 1 rfl) ?_
    refine lv_aload_n hx hb d_S_standInLine_6 rfl (lv_at hl 0 rfl) ?_
    refine va_get (D := (dC, dI)) (ci := 3) (v := .ref (h 8)) (C := R_S) (T := T_S) (N := 10) hx hb htb in_S hown hK hP 6 rfl rfl 4 (by decide) (htb _ tw_180) (fun _ h9 => h9) rfl d_S_standInLine_7 ?_
    refine va_alen (v := (4097 : Int32)) hx hb hK hP 8 0 rfl rfl rfl d_S_standInLine_10 ?_
    refine lv_icmp_ge (tgt := 33) hx hb d_S_standInLine_11 (by decide) (fun c_2 => ?_) (fun c_2 => ?_)
    · have hf := ite_t c_2 hf
      cases hf
      exact hret _ _ _ _ hP hD hS d_S_standInLine_33
    · have hf := ite_f c_2 hf
      refine lv_aload_n hx hb d_S_standInLine_14 rfl (lv_at hl 0 rfl) ?_
      refine va_get (D := (dC, dI)) (ci := 3) (v := .int cm) (C := R_S) (T := T_S) (N := 10) hx hb htb in_S hown hK hP 6 rfl rfl 8 (by decide) (htb _ tw_184) (fun _ h9 => h9) rfl d_S_standInLine_15 ?_
      refine lv_if_lt (tgt := 33) hx hb d_S_standInLine_18 (by decide) (fun c_3 => ?_) (fun c_3 => ?_)
      · have hf := ite_t c_3 hf
        cases hf
        exact hret _ _ _ _ hP hD hS d_S_standInLine_33
      · have hf := ite_f c_3 hf
        refine lv_aload_n hx hb d_S_standInLine_21 rfl (lv_at hl 0 rfl) ?_
        refine va_get (D := (dC, dI)) (ci := 3) (v := .int cm) (C := R_S) (T := T_S) (N := 10) hx hb htb in_S hown hK hP 6 rfl rfl 8 (by decide) (htb _ tw_184) (fun _ h9 => h9) rfl d_S_standInLine_22 ?_
        refine lv_aload_n hx hb d_S_standInLine_25 rfl (lv_at hl 0 rfl) ?_
        refine va_get (D := (dC, dI)) (ci := 3) (v := .ref (h 9)) (C := R_S) (T := T_S) (N := 10) hx hb htb in_S hown hK hP 6 rfl rfl 5 (by decide) (htb _ tw_181) (fun _ h9 => h9) rfl d_S_standInLine_26 ?_
        refine va_alen (v := (4096 : Int32)) hx hb hK hP 9 0 rfl rfl rfl d_S_standInLine_29 ?_
        refine lv_icmp_lt (tgt := 34) hx hb d_S_standInLine_30 (by decide) (fun c_4 => ?_) (fun c_4 => ?_)
        · have hf := ite_t c_4 hf
          refine lv_aload_n hx hb d_S_standInLine_34 rfl (lv_at hl 0 rfl) ?_
          refine va_get (D := (dC, dI)) (ci := 3) (v := .ref (h 8)) (C := R_S) (T := T_S) (N := 10) hx hb htb in_S hown hK hP 6 rfl rfl 4 (by decide) (htb _ tw_180) (fun _ h9 => h9) rfl d_S_standInLine_35 ?_
          refine lv_iload_n hx hb d_S_standInLine_38 rfl (lv_at hl 1 rfl) ?_
          refine lv_iconst (v := 1) hx hb d_S_standInLine_39 (by decide) ?_
          obtain ⟨c_5, hf⟩ := gd_s hf
          refine va_iast (i := a1) (x := (1 : Int32)) hx hb hK hP hD hS 8 0 rfl rfl c_5 d_S_standInLine_40 (fun H locs hP hD hS => ?_)
          obtain ⟨kn_6, ekn_6, hf⟩ := lt1_s hf
          have hP : va_P (dC, dI) clAll (wC h cI cL NW bk sz wd mb gB gI gN iN dr es of od pl hd tk kn_6 li pa ins cm fd hr) H := ekn_6 ▸ hP
          have hD : va_D A (wC h cI cL NW bk sz wd mb gB gI gN iN dr es of od pl hd tk kn_6 li pa ins cm fd hr) := ekn_6 ▸ hD
          refine lv_aload_n hx hb d_S_standInLine_41 rfl (lv_at hl 0 rfl) ?_
          refine va_get (D := (dC, dI)) (ci := 3) (v := .ref (h 9)) (C := R_S) (T := T_S) (N := 10) hx hb htb in_S hown hK hP 6 rfl rfl 5 (by decide) (htb _ tw_181) (fun _ h9 => h9) rfl d_S_standInLine_42 ?_
          refine lv_aload_n hx hb d_S_standInLine_45 rfl (lv_at hl 0 rfl) ?_
          refine va_get (D := (dC, dI)) (ci := 3) (v := .int cm) (C := R_S) (T := T_S) (N := 10) hx hb htb in_S hown hK hP 6 rfl rfl 8 (by decide) (htb _ tw_184) (fun _ h9 => h9) rfl d_S_standInLine_46 ?_
          refine lv_iload_n hx hb d_S_standInLine_49 rfl (lv_at hl 1 rfl) ?_
          obtain ⟨c_7, hf⟩ := gd_s hf
          refine va_iast (i := cm) (x := a1) hx hb hK hP hD hS 9 0 rfl rfl c_7 d_S_standInLine_50 (fun H locs hP hD hS => ?_)
          obtain ⟨li_8, eli_8, hf⟩ := lt1_s hf
          have hP : va_P (dC, dI) clAll (wC h cI cL NW bk sz wd mb gB gI gN iN dr es of od pl hd tk kn_6 li_8 pa ins cm fd hr) H := eli_8 ▸ hP
          have hD : va_D A (wC h cI cL NW bk sz wd mb gB gI gN iN dr es of od pl hd tk kn_6 li_8 pa ins cm fd hr) := eli_8 ▸ hD
          refine lv_aload_n hx hb d_S_standInLine_51 rfl (lv_at hl 0 rfl) ?_
          refine va_get (D := (dC, dI)) (ci := 3) (v := .ref (h 10)) (C := R_S) (T := T_S) (N := 10) hx hb htb in_S hown hK hP 6 rfl rfl 6 (by decide) (htb _ tw_182) (fun _ h9 => h9) rfl d_S_standInLine_52 ?_
          refine lv_aload_n hx hb d_S_standInLine_55 rfl (lv_at hl 0 rfl) ?_
          refine va_get (D := (dC, dI)) (ci := 3) (v := .int cm) (C := R_S) (T := T_S) (N := 10) hx hb htb in_S hown hK hP 6 rfl rfl 8 (by decide) (htb _ tw_184) (fun _ h9 => h9) rfl d_S_standInLine_56 ?_
          refine lv_iload_n hx hb d_S_standInLine_59 rfl (lv_at hl 2 rfl) ?_
          obtain ⟨c_9, hf⟩ := gd_s hf
          refine va_iast (i := cm) (x := a2) hx hb hK hP hD hS 10 0 rfl rfl c_9 d_S_standInLine_60 (fun H locs hP hD hS => ?_)
          obtain ⟨pa_10, epa_10, hf⟩ := lt1_s hf
          have hP : va_P (dC, dI) clAll (wC h cI cL NW bk sz wd mb gB gI gN iN dr es of od pl hd tk kn_6 li_8 pa_10 ins cm fd hr) H := epa_10 ▸ hP
          have hD : va_D A (wC h cI cL NW bk sz wd mb gB gI gN iN dr es of od pl hd tk kn_6 li_8 pa_10 ins cm fd hr) := epa_10 ▸ hD
          refine lv_aload_n hx hb d_S_standInLine_61 rfl (lv_at hl 0 rfl) ?_
          refine va_get (D := (dC, dI)) (ci := 3) (v := .ref (h 11)) (C := R_S) (T := T_S) (N := 10) hx hb htb in_S hown hK hP 6 rfl rfl 7 (by decide) (htb _ tw_183) (fun _ h9 => h9) rfl d_S_standInLine_62 ?_
          refine lv_aload_n hx hb d_S_standInLine_65 rfl (lv_at hl 0 rfl) ?_
          refine va_get (D := (dC, dI)) (ci := 3) (v := .int cm) (C := R_S) (T := T_S) (N := 10) hx hb htb in_S hown hK hP 6 rfl rfl 8 (by decide) (htb _ tw_184) (fun _ h9 => h9) rfl d_S_standInLine_66 ?_
          refine lv_iconst (v := 0) hx hb d_S_standInLine_69 (by decide) ?_
          obtain ⟨c_11, hf⟩ := gd_s hf
          refine va_iast (i := cm) (x := (0 : Int32)) hx hb hK hP hD hS 11 0 rfl rfl c_11 d_S_standInLine_70 (fun H locs hP hD hS => ?_)
          obtain ⟨ins_12, eins_12, hf⟩ := lt1_s hf
          have hP : va_P (dC, dI) clAll (wC h cI cL NW bk sz wd mb gB gI gN iN dr es of od pl hd tk kn_6 li_8 pa_10 ins_12 cm fd hr) H := eins_12 ▸ hP
          have hD : va_D A (wC h cI cL NW bk sz wd mb gB gI gN iN dr es of od pl hd tk kn_6 li_8 pa_10 ins_12 cm fd hr) := eins_12 ▸ hD
          refine lv_aload_n hx hb d_S_standInLine_71 rfl (lv_at hl 0 rfl) ?_
          refine lv_dup hx hb d_S_standInLine_72 rfl ?_
          refine va_get (D := (dC, dI)) (ci := 3) (v := .int cm) (C := R_S) (T := T_S) (N := 10) hx hb htb in_S hown hK hP 6 rfl rfl 8 (by decide) (htb _ tw_184) (fun _ h9 => h9) rfl d_S_standInLine_73 ?_
          refine lv_iconst (v := 1) hx hb d_S_standInLine_76 (by decide) ?_
          refine lv_iadd hx hb d_S_standInLine_77 ?_
          refine va_put (D := (dC, dI)) (ci := 3) (v := .int (cm + ((1 : Int32)))) (ty := .int) (C := R_S) (T := T_S) (N := 10) hx hb htb in_S ty_S tyok_S nm_S hown hK hP hD hS 6 rfl rfl 8 (by decide) (htb _ tw_184) (fun _ h9 => h9) rfl (by decide +kernel) rfl rfl (Nat.le_of_ble_eq_true rfl) d_S_standInLine_78 (fun H locs hP hD hS => ?_)
          have hP : va_P (dC, dI) clAll (wC h cI cL NW bk sz wd mb gB gI gN iN dr es of od pl hd tk kn_6 li_8 pa_10 ins_12 (cm + ((1 : Int32))) fd hr) H := hP
          have hD : va_D A (wC h cI cL NW bk sz wd mb gB gI gN iN dr es of od pl hd tk kn_6 li_8 pa_10 ins_12 (cm + ((1 : Int32))) fd hr) := hD
          cases hf
          exact hret _ _ _ _ hP hD hS d_S_standInLine_81
        · have hf := ite_f c_4 hf
          cases hf
          exact hret _ _ _ _ hP hD hS d_S_standInLine_33
set_option maxHeartbeats 4000000 in
set_option maxRecDepth 100000 in
theorem c_S_entryStands {l : Launch} {dC : Nat → ClassId} {dI : Nat → Nat → Nat} {N : Nat} {h : Nat → Nat} {cI : ClassId} {cL : ClassId} {NW : Nat} {bk : Int32} {sz : Int32} {wd : Nat → Int64} {mb : Nat → Int32} {gB : Int32} {gI : Int32} {gN : Int32} {iN : Int32} {dr : Int32} {es : Int64} {of : Int64} {od : Int32} {pl : Int64} {hd : Int64} {tk : Nat → Int32} {kn : Nat → Int32} {li : Nat → Int32} {pa : Nat → Int32} {ins : Nat → Int32} {cm : Int32} {fd : Int32} {hr : Int32} {hs : Nat} {a1 : Int32} {a2 : Int32} {r : Int32} (hf : f_S_entryStands N NW sz wd mb gI iN od pl hd a1 a2 = some (r)) : Met l y_S_entryStands ws_S_entryStands { frames := 2, cells := 0, slots := 0, locals := 51 } (PcU (dC, dI) clAll [(cI, .int), (cL, .long)] (wC h cI cL NW bk sz wd mb gB gI gN iN dr es of od pl hd tk kn li pa ins cm fd hr) hs [.ref (h 6), .int a1, .int a2]) (QUi (dC, dI) clAll [(cI, .int), (cL, .long)] (wC h cI cL NW bk sz wd mb gB gI gN iN dr es of od pl hd tk kn li pa ins cm fd hr) (wC h cI cL NW bk sz wd mb gB gI gN iN dr es of od pl hd tk kn li pa ins cm fd hr) hs r) 0 0 (va_A (wC h cI cL NW bk sz wd mb gB gI gN iN dr es of od pl hd tk kn li pa ins cm fd hr) hs) := by
  refine mUz (cc := b_S_entryStands) (maxL := 5) (by decide) rfl (Nat.le_of_ble_eq_true rfl) ?_
  intro p e s m args below meth c Q hx hb hml hts hown A hA hK hP hD hS hret ls hl
  have htb : ∀ w ∈ TB, w.before args s = true := fun w h => hts w (List.mem_cons_of_mem _ h)
  have hl : lv_has ls 5 [(0, .ref (h 6)), (1, .int a1), (2, .int a2)] := hl
  have hj_177 : ∀ (x4 : Int32) (H : Heap) (locs : List Loc) (ls : Array Slot), f_S_entryStands_177 N NW sz wd mb gI iN od pl hd x4 = some (r) → va_P (dC, dI) clAll (wC h cI cL NW bk sz wd mb gB gI gN iN dr es of od pl hd tk kn li pa ins cm fd hr) H → va_D A (wC h cI cL NW bk sz wd mb gB gI gN iN dr es of od pl hd tk kn li pa ins cm fd hr) → va_S A s.heap H locs → lv_has ls 5 [(0, .ref (h 6)), (4, .int x4)] → W p l e (headSpec ws_S_entryStands { frames := 2, cells := 0, slots := 0, locals := 51 }).room s m args below meth c H locs 0 0 Q (F0 m 177 ls []) := by
    intro x4 H locs ls hf hP hD hS hl
    unfold f_S_entryStands_177 at hf
    refine lv_iload hx hb d_S_entryStands_177 (lv_at hl 1 rfl) ?_
    refine lv_ldc (v := 32768) hx hb hown (htb _ tw_504) d_S_entryStands_179 ?_
    refine lv_icmp_ne (tgt := 199) hx hb d_S_entryStands_181 (by decide) (fun c_1 => ?_) (fun c_1 => ?_)
    · have hf := ite_f c_1 hf
      refine lv_iconst (v := 0) hx hb d_S_entryStands_199 (by decide) ?_
      cases hf
      exact hret _ _ _ _ (Or.inl rfl) hP hD hS d_S_entryStands_200
    · have hf := ite_t c_1 hf
      refine lv_aload_n hx hb d_S_entryStands_184 rfl (lv_at hl 0 rfl) ?_
      refine va_get (D := (dC, dI)) (ci := 3) (v := .ref (h 5)) (C := R_S) (T := T_S) (N := 10) hx hb htb in_S hown hK hP 6 rfl rfl 2 (by decide) (htb _ tw_178) (fun _ h9 => h9) rfl d_S_entryStands_185 ?_
      obtain ⟨r_2, hc_3, hf⟩ := bd1_s hf
      refine ucVi (As := []) (rest := []) ⟨hx, hb, hml, hown, htb⟩ hK hP hD hS hA (fun hs => c_E_mark hc_3) (cwV 0 htb (gV tw_495 tw_496 tw_497 tw_72 tw_498) rfl rfl rfl (by decide +kernel) ⟨Nat.le_of_ble_eq_true rfl, Nat.le_of_ble_eq_true rfl⟩) 5 1 rfl rfl rfl rfl rfl hl.1 (Nat.le_of_ble_eq_true rfl) d_S_entryStands_188 ⟨Nat.zero_le _, Nat.zero_le _⟩ (fun H locs hP hD hS => ?_)
      refine lv_iconst (v := 1) hx hb d_S_entryStands_191 (by decide) ?_
      refine lv_icmp_ne (tgt := 199) hx hb d_S_entryStands_192 (by decide) (fun c_4 => ?_) (fun c_4 => ?_)
      · have hf := ite_f c_4 hf
        refine lv_iconst (v := 0) hx hb d_S_entryStands_199 (by decide) ?_
        cases hf
        exact hret _ _ _ _ (Or.inl rfl) hP hD hS d_S_entryStands_200
      · have hf := ite_t c_4 hf
        refine lv_iconst (v := 1) hx hb d_S_entryStands_195 (by decide) ?_
        refine lv_goto (tgt := 200) hx hb d_S_entryStands_196 (by decide) ?_
        cases hf
        exact hret _ _ _ _ (Or.inr rfl) hP hD hS d_S_entryStands_200
  unfold f_S_entryStands at hf
  refine lv_aload_n hx hb d_S_entryStands_0 rfl (lv_at hl 0 rfl) ?_
  refine va_get (D := (dC, dI)) (ci := 3) (v := .ref (h 5)) (C := R_S) (T := T_S) (N := 10) hx hb htb in_S hown hK hP 6 rfl rfl 2 (by decide) (htb _ tw_178) (fun _ h9 => h9) rfl d_S_entryStands_1 ?_
  obtain ⟨r_1, hc_2, hf⟩ := bd1_s hf
  refine ucVi (As := []) (rest := []) ⟨hx, hb, hml, hown, htb⟩ hK hP hD hS hA (fun hs => c_E_hasInode hc_2) (cwV 0 htb (gV tw_464 tw_465 tw_466 tw_72 tw_467) rfl rfl rfl (by decide +kernel) ⟨Nat.le_of_ble_eq_true rfl, Nat.le_of_ble_eq_true rfl⟩) 5 1 rfl rfl rfl rfl rfl hl.1 (Nat.le_of_ble_eq_true rfl) d_S_entryStands_4 ⟨Nat.zero_le _, Nat.zero_le _⟩ (fun H locs hP hD hS => ?_)
  refine lv_if_eq (tgt := 20) hx hb d_S_entryStands_7 (by decide) (fun c_3 => ?_) (fun c_3 => ?_)
  · have hf := ite_t c_3 hf
    refine lv_iconst (v := 0) hx hb d_S_entryStands_20 (by decide) ?_
    cases hf
    exact hret _ _ _ _ (Or.inl rfl) hP hD hS d_S_entryStands_21
  · have hf := ite_f c_3 hf
    refine lv_aload_n hx hb d_S_entryStands_10 rfl (lv_at hl 0 rfl) ?_
    refine va_get (D := (dC, dI)) (ci := 3) (v := .ref (h 5)) (C := R_S) (T := T_S) (N := 10) hx hb htb in_S hown hK hP 6 rfl rfl 2 (by decide) (htb _ tw_178) (fun _ h9 => h9) rfl d_S_entryStands_11 ?_
    obtain ⟨r_4, hc_5, hf⟩ := bd1_s hf
    refine ucVi (As := []) (rest := []) ⟨hx, hb, hml, hown, htb⟩ hK hP hD hS hA (fun hs => c_E_hasName hc_5) (cwV 0 htb (gV tw_472 tw_473 tw_474 tw_72 tw_475) rfl rfl rfl (by decide +kernel) ⟨Nat.le_of_ble_eq_true rfl, Nat.le_of_ble_eq_true rfl⟩) 5 1 rfl rfl rfl rfl rfl hl.1 (Nat.le_of_ble_eq_true rfl) d_S_entryStands_14 ⟨Nat.zero_le _, Nat.zero_le _⟩ (fun H locs hP hD hS => ?_)
    refine lv_if_ne (tgt := 22) hx hb d_S_entryStands_17 (by decide) (fun c_6 => ?_) (fun c_6 => ?_)
    · have hf := ite_f c_6 hf
      refine lv_aload_n hx hb d_S_entryStands_22 rfl (lv_at hl 0 rfl) ?_
      refine va_get (D := (dC, dI)) (ci := 3) (v := .ref (h 5)) (C := R_S) (T := T_S) (N := 10) hx hb htb in_S hown hK hP 6 rfl rfl 2 (by decide) (htb _ tw_178) (fun _ h9 => h9) rfl d_S_entryStands_23 ?_
      obtain ⟨r_7, hc_8, hf⟩ := bd1_s hf
      refine ucVi (As := []) (rest := []) ⟨hx, hb, hml, hown, htb⟩ hK hP hD hS hA (fun hs => c_E_inode hc_8) (cwV 0 htb (gV tw_482 tw_483 tw_484 tw_72 tw_485) rfl rfl rfl (by decide +kernel) ⟨Nat.le_of_ble_eq_true rfl, Nat.le_of_ble_eq_true rfl⟩) 5 1 rfl rfl rfl rfl rfl hl.1 (Nat.le_of_ble_eq_true rfl) d_S_entryStands_26 ⟨Nat.zero_le _, Nat.zero_le _⟩ (fun H locs hP hD hS => ?_)
      refine lv_istore_n (lv' := [(3, .int r_7), (0, .ref (h 6)), (1, .int a1), (2, .int a2)]) hx hb d_S_entryStands_29 rfl hl (by decide) rfl (fun ls hl => ?_)
      refine lv_aload_n hx hb d_S_entryStands_30 rfl (lv_at hl 1 rfl) ?_
      refine va_get (D := (dC, dI)) (ci := 3) (v := .ref (h 5)) (C := R_S) (T := T_S) (N := 10) hx hb htb in_S hown hK hP 6 rfl rfl 2 (by decide) (htb _ tw_178) (fun _ h9 => h9) rfl d_S_entryStands_31 ?_
      obtain ⟨r_9, hc_10, hf⟩ := bd1_s hf
      refine ucVi (As := []) (rest := []) ⟨hx, hb, hml, hown, htb⟩ hK hP hD hS hA (fun hs => c_E_order hc_10) (cwV 0 htb (gV tw_486 tw_487 tw_488 tw_72 tw_489) rfl rfl rfl (by decide +kernel) ⟨Nat.le_of_ble_eq_true rfl, Nat.le_of_ble_eq_true rfl⟩) 5 1 rfl rfl rfl rfl rfl hl.1 (Nat.le_of_ble_eq_true rfl) d_S_entryStands_34 ⟨Nat.zero_le _, Nat.zero_le _⟩ (fun H locs hP hD hS => ?_)
      refine lv_if_ne (tgt := 72) hx hb d_S_entryStands_37 (by decide) (fun c_11 => ?_) (fun c_11 => ?_)
      · have hf := ite_f c_11 hf
        refine lv_aload_n hx hb d_S_entryStands_72 rfl (lv_at hl 1 rfl) ?_
        refine va_get (D := (dC, dI)) (ci := 3) (v := .ref (h 5)) (C := R_S) (T := T_S) (N := 10) hx hb htb in_S hown hK hP 6 rfl rfl 2 (by decide) (htb _ tw_178) (fun _ h9 => h9) rfl d_S_entryStands_73 ?_
        obtain ⟨r_12, hc_13, hf⟩ := bd1_s hf
        refine ucVi (As := []) (rest := []) ⟨hx, hb, hml, hown, htb⟩ hK hP hD hS hA (fun hs => c_E_order hc_13) (cwV 0 htb (gV tw_486 tw_487 tw_488 tw_72 tw_489) rfl rfl rfl (by decide +kernel) ⟨Nat.le_of_ble_eq_true rfl, Nat.le_of_ble_eq_true rfl⟩) 5 1 rfl rfl rfl rfl rfl hl.1 (Nat.le_of_ble_eq_true rfl) d_S_entryStands_76 ⟨Nat.zero_le _, Nat.zero_le _⟩ (fun H locs hP hD hS => ?_)
        refine lv_iconst (v := 1) hx hb d_S_entryStands_79 (by decide) ?_
        refine lv_icmp_ne (tgt := 115) hx hb d_S_entryStands_80 (by decide) (fun c_14 => ?_) (fun c_14 => ?_)
        · have hf := ite_f c_14 hf
          refine lv_aload_n hx hb d_S_entryStands_115 rfl (lv_at hl 1 rfl) ?_
          refine va_get (D := (dC, dI)) (ci := 3) (v := .ref (h 5)) (C := R_S) (T := T_S) (N := 10) hx hb htb in_S hown hK hP 6 rfl rfl 2 (by decide) (htb _ tw_178) (fun _ h9 => h9) rfl d_S_entryStands_116 ?_
          obtain ⟨r_15, hc_16, hf⟩ := bd1_s hf
          refine ucVi (As := []) (rest := []) ⟨hx, hb, hml, hown, htb⟩ hK hP hD hS hA (fun hs => c_E_isOneDot hc_16) (cwV 0 htb (gV tw_490 tw_491 tw_492 tw_72 tw_493) rfl rfl rfl (by decide +kernel) ⟨Nat.le_of_ble_eq_true rfl, Nat.le_of_ble_eq_true rfl⟩) 5 1 rfl rfl rfl rfl rfl hl.1 (Nat.le_of_ble_eq_true rfl) d_S_entryStands_119 ⟨Nat.zero_le _, Nat.zero_le _⟩ (fun H locs hP hD hS => ?_)
          refine lv_if_ne (tgt := 146) hx hb d_S_entryStands_122 (by decide) (fun c_17 => ?_) (fun c_17 => ?_)
          · have hf := ite_f c_17 hf
            refine lv_iconst (v := 0) hx hb d_S_entryStands_146 (by decide) ?_
            cases hf
            exact hret _ _ _ _ (Or.inl rfl) hP hD hS d_S_entryStands_147
          · have hf := ite_t c_17 hf
            refine lv_aload_n hx hb d_S_entryStands_125 rfl (lv_at hl 1 rfl) ?_
            refine va_get (D := (dC, dI)) (ci := 3) (v := .ref (h 5)) (C := R_S) (T := T_S) (N := 10) hx hb htb in_S hown hK hP 6 rfl rfl 2 (by decide) (htb _ tw_178) (fun _ h9 => h9) rfl d_S_entryStands_126 ?_
            obtain ⟨r_18, hc_19, hf⟩ := bd1_s hf
            refine ucVi (As := []) (rest := []) ⟨hx, hb, hml, hown, htb⟩ hK hP hD hS hA (fun hs => c_E_isTwoDots hc_19) (cwV 0 htb (gV tw_499 tw_500 tw_501 tw_72 tw_502) rfl rfl rfl (by decide +kernel) ⟨Nat.le_of_ble_eq_true rfl, Nat.le_of_ble_eq_true rfl⟩) 5 1 rfl rfl rfl rfl rfl hl.1 (Nat.le_of_ble_eq_true rfl) d_S_entryStands_129 ⟨Nat.zero_le _, Nat.zero_le _⟩ (fun H locs hP hD hS => ?_)
            refine lv_if_ne (tgt := 146) hx hb d_S_entryStands_132 (by decide) (fun c_20 => ?_) (fun c_20 => ?_)
            · have hf := ite_f c_20 hf
              refine lv_iconst (v := 0) hx hb d_S_entryStands_146 (by decide) ?_
              cases hf
              exact hret _ _ _ _ (Or.inl rfl) hP hD hS d_S_entryStands_147
            · have hf := ite_t c_20 hf
              refine lv_aload_n hx hb d_S_entryStands_135 rfl (lv_at hl 1 rfl) ?_
              refine va_get (D := (dC, dI)) (ci := 3) (v := .ref (h 3)) (C := R_S) (T := T_S) (N := 10) hx hb htb in_S hown hK hP 6 rfl rfl 1 (by decide) (htb _ tw_177) (fun _ h9 => h9) rfl d_S_entryStands_136 ?_
              refine lv_iload_n hx hb d_S_entryStands_139 rfl (lv_at hl 0 rfl) ?_
              obtain ⟨r_21, hc_22, hf⟩ := bd1_s hf
              refine ucVi (As := [.int r_7]) (rest := []) ⟨hx, hb, hml, hown, htb⟩ hK hP hD hS hA (fun hs => c_L_isUsed hc_22) (cwV 1 htb (gV tw_369 tw_370 tw_371 tw_71 tw_372) rfl rfl rfl (by decide +kernel) ⟨Nat.le_of_ble_eq_true rfl, Nat.le_of_ble_eq_true rfl⟩) 3 2 rfl rfl rfl rfl rfl hl.1 (Nat.le_of_ble_eq_true rfl) d_S_entryStands_140 ⟨Nat.zero_le _, Nat.zero_le _⟩ (fun H locs hP hD hS => ?_)
              refine lv_if_ne (tgt := 148) hx hb d_S_entryStands_143 (by decide) (fun c_23 => ?_) (fun c_23 => ?_)
              · have hf := ite_f c_23 hf
                refine lv_aload_n hx hb d_S_entryStands_148 rfl (lv_at hl 1 rfl) ?_
                refine va_get (D := (dC, dI)) (ci := 3) (v := .ref (h 3)) (C := R_S) (T := T_S) (N := 10) hx hb htb in_S hown hK hP 6 rfl rfl 1 (by decide) (htb _ tw_177) (fun _ h9 => h9) rfl d_S_entryStands_149 ?_
                refine lv_iload_n hx hb d_S_entryStands_152 rfl (lv_at hl 0 rfl) ?_
                obtain ⟨r_24, hc_25, hf⟩ := bd1_s hf
                refine ucVi (As := [.int r_7]) (rest := []) ⟨hx, hb, hml, hown, htb⟩ hK hP hD hS hA (fun hs => c_L_typeOf hc_25) (cwV 1 htb (gV tw_378 tw_379 tw_380 tw_71 tw_381) rfl rfl rfl (by decide +kernel) ⟨Nat.le_of_ble_eq_true rfl, Nat.le_of_ble_eq_true rfl⟩) 3 2 rfl rfl rfl rfl rfl hl.1 (Nat.le_of_ble_eq_true rfl) d_S_entryStands_153 ⟨Nat.zero_le _, Nat.zero_le _⟩ (fun H locs hP hD hS => ?_)
                refine lv_istore (lv' := [(4, .int r_24), (3, .int r_7), (0, .ref (h 6)), (1, .int a1), (2, .int a2)]) hx hb d_S_entryStands_156 hl (by decide) rfl (fun ls hl => ?_)
                refine lv_iload hx hb d_S_entryStands_158 (lv_at hl 0 rfl) ?_
                refine lv_sipush (v := 16384) hx hb d_S_entryStands_160 (by decide) ?_
                refine lv_icmp_ne (tgt := 177) hx hb d_S_entryStands_163 (by decide) (fun c_26 => ?_) (fun c_26 => ?_)
                · have hf := ite_f c_26 hf
                  exact hj_177 r_24 _ _ _ hf hP hD hS (lv_sub hl [2, 0] rfl)
                · have hf := ite_t c_26 hf
                  refine lv_aload_n hx hb d_S_entryStands_166 rfl (lv_at hl 2 rfl) ?_
                  refine va_get (D := (dC, dI)) (ci := 3) (v := .ref (h 5)) (C := R_S) (T := T_S) (N := 10) hx hb htb in_S hown hK hP 6 rfl rfl 2 (by decide) (htb _ tw_178) (fun _ h9 => h9) rfl d_S_entryStands_167 ?_
                  obtain ⟨r_27, hc_28, hf⟩ := bd1_s hf
                  refine ucVi (As := []) (rest := []) ⟨hx, hb, hml, hown, htb⟩ hK hP hD hS hA (fun hs => c_E_mark hc_28) (cwV 0 htb (gV tw_495 tw_496 tw_497 tw_72 tw_498) rfl rfl rfl (by decide +kernel) ⟨Nat.le_of_ble_eq_true rfl, Nat.le_of_ble_eq_true rfl⟩) 5 1 rfl rfl rfl rfl rfl hl.1 (Nat.le_of_ble_eq_true rfl) d_S_entryStands_170 ⟨Nat.zero_le _, Nat.zero_le _⟩ (fun H locs hP hD hS => ?_)
                  refine lv_iconst (v := 2) hx hb d_S_entryStands_173 (by decide) ?_
                  refine lv_icmp_eq (tgt := 195) hx hb d_S_entryStands_174 (by decide) (fun c_29 => ?_) (fun c_29 => ?_)
                  · have hf := ite_t c_29 hf
                    refine lv_iconst (v := 1) hx hb d_S_entryStands_195 (by decide) ?_
                    refine lv_goto (tgt := 200) hx hb d_S_entryStands_196 (by decide) ?_
                    cases hf
                    exact hret _ _ _ _ (Or.inr rfl) hP hD hS d_S_entryStands_200
                  · have hf := ite_f c_29 hf
                    exact hj_177 r_24 _ _ _ hf hP hD hS (lv_sub hl [2, 0] rfl)
              · have hf := ite_t c_23 hf
                refine lv_iconst (v := 0) hx hb d_S_entryStands_146 (by decide) ?_
                cases hf
                exact hret _ _ _ _ (Or.inl rfl) hP hD hS d_S_entryStands_147
        · have hf := ite_t c_14 hf
          refine lv_aload_n hx hb d_S_entryStands_83 rfl (lv_at hl 1 rfl) ?_
          refine va_get (D := (dC, dI)) (ci := 3) (v := .ref (h 5)) (C := R_S) (T := T_S) (N := 10) hx hb htb in_S hown hK hP 6 rfl rfl 2 (by decide) (htb _ tw_178) (fun _ h9 => h9) rfl d_S_entryStands_84 ?_
          obtain ⟨r_30, hc_31, hf⟩ := bd1_s hf
          refine ucVi (As := []) (rest := []) ⟨hx, hb, hml, hown, htb⟩ hK hP hD hS hA (fun hs => c_E_isTwoDots hc_31) (cwV 0 htb (gV tw_499 tw_500 tw_501 tw_72 tw_502) rfl rfl rfl (by decide +kernel) ⟨Nat.le_of_ble_eq_true rfl, Nat.le_of_ble_eq_true rfl⟩) 5 1 rfl rfl rfl rfl rfl hl.1 (Nat.le_of_ble_eq_true rfl) d_S_entryStands_87 ⟨Nat.zero_le _, Nat.zero_le _⟩ (fun H locs hP hD hS => ?_)
          refine lv_if_eq (tgt := 113) hx hb d_S_entryStands_90 (by decide) (fun c_32 => ?_) (fun c_32 => ?_)
          · have hf := ite_t c_32 hf
            refine lv_iconst (v := 0) hx hb d_S_entryStands_113 (by decide) ?_
            cases hf
            exact hret _ _ _ _ (Or.inl rfl) hP hD hS d_S_entryStands_114
          · have hf := ite_f c_32 hf
            refine lv_iload_n hx hb d_S_entryStands_93 rfl (lv_at hl 0 rfl) ?_
            refine lv_iload_n hx hb d_S_entryStands_94 rfl (lv_at hl 3 rfl) ?_
            refine lv_icmp_ne (tgt := 113) hx hb d_S_entryStands_95 (by decide) (fun c_33 => ?_) (fun c_33 => ?_)
            · have hf := ite_f c_33 hf
              refine lv_iconst (v := 0) hx hb d_S_entryStands_113 (by decide) ?_
              cases hf
              exact hret _ _ _ _ (Or.inl rfl) hP hD hS d_S_entryStands_114
            · have hf := ite_t c_33 hf
              refine lv_aload_n hx hb d_S_entryStands_98 rfl (lv_at hl 1 rfl) ?_
              refine va_get (D := (dC, dI)) (ci := 3) (v := .ref (h 5)) (C := R_S) (T := T_S) (N := 10) hx hb htb in_S hown hK hP 6 rfl rfl 2 (by decide) (htb _ tw_178) (fun _ h9 => h9) rfl d_S_entryStands_99 ?_
              obtain ⟨r_34, hc_35, hf⟩ := bd1_s hf
              refine ucVi (As := []) (rest := []) ⟨hx, hb, hml, hown, htb⟩ hK hP hD hS hA (fun hs => c_E_mark hc_35) (cwV 0 htb (gV tw_495 tw_496 tw_497 tw_72 tw_498) rfl rfl rfl (by decide +kernel) ⟨Nat.le_of_ble_eq_true rfl, Nat.le_of_ble_eq_true rfl⟩) 5 1 rfl rfl rfl rfl rfl hl.1 (Nat.le_of_ble_eq_true rfl) d_S_entryStands_102 ⟨Nat.zero_le _, Nat.zero_le _⟩ (fun H locs hP hD hS => ?_)
              refine lv_iconst (v := 2) hx hb d_S_entryStands_105 (by decide) ?_
              refine lv_icmp_ne (tgt := 113) hx hb d_S_entryStands_106 (by decide) (fun c_36 => ?_) (fun c_36 => ?_)
              · have hf := ite_f c_36 hf
                refine lv_iconst (v := 0) hx hb d_S_entryStands_113 (by decide) ?_
                cases hf
                exact hret _ _ _ _ (Or.inl rfl) hP hD hS d_S_entryStands_114
              · have hf := ite_t c_36 hf
                refine lv_iconst (v := 1) hx hb d_S_entryStands_109 (by decide) ?_
                refine lv_goto (tgt := 114) hx hb d_S_entryStands_110 (by decide) ?_
                cases hf
                exact hret _ _ _ _ (Or.inr rfl) hP hD hS d_S_entryStands_114
      · have hf := ite_t c_11 hf
        refine lv_aload_n hx hb d_S_entryStands_40 rfl (lv_at hl 1 rfl) ?_
        refine va_get (D := (dC, dI)) (ci := 3) (v := .ref (h 5)) (C := R_S) (T := T_S) (N := 10) hx hb htb in_S hown hK hP 6 rfl rfl 2 (by decide) (htb _ tw_178) (fun _ h9 => h9) rfl d_S_entryStands_41 ?_
        obtain ⟨r_37, hc_38, hf⟩ := bd1_s hf
        refine ucVi (As := []) (rest := []) ⟨hx, hb, hml, hown, htb⟩ hK hP hD hS hA (fun hs => c_E_isOneDot hc_38) (cwV 0 htb (gV tw_490 tw_491 tw_492 tw_72 tw_493) rfl rfl rfl (by decide +kernel) ⟨Nat.le_of_ble_eq_true rfl, Nat.le_of_ble_eq_true rfl⟩) 5 1 rfl rfl rfl rfl rfl hl.1 (Nat.le_of_ble_eq_true rfl) d_S_entryStands_44 ⟨Nat.zero_le _, Nat.zero_le _⟩ (fun H locs hP hD hS => ?_)
        refine lv_if_eq (tgt := 70) hx hb d_S_entryStands_47 (by decide) (fun c_39 => ?_) (fun c_39 => ?_)
        · have hf := ite_t c_39 hf
          refine lv_iconst (v := 0) hx hb d_S_entryStands_70 (by decide) ?_
          cases hf
          exact hret _ _ _ _ (Or.inl rfl) hP hD hS d_S_entryStands_71
        · have hf := ite_f c_39 hf
          refine lv_iload_n hx hb d_S_entryStands_50 rfl (lv_at hl 0 rfl) ?_
          refine lv_iload_n hx hb d_S_entryStands_51 rfl (lv_at hl 2 rfl) ?_
          refine lv_icmp_ne (tgt := 70) hx hb d_S_entryStands_52 (by decide) (fun c_40 => ?_) (fun c_40 => ?_)
          · have hf := ite_f c_40 hf
            refine lv_iconst (v := 0) hx hb d_S_entryStands_70 (by decide) ?_
            cases hf
            exact hret _ _ _ _ (Or.inl rfl) hP hD hS d_S_entryStands_71
          · have hf := ite_t c_40 hf
            refine lv_aload_n hx hb d_S_entryStands_55 rfl (lv_at hl 1 rfl) ?_
            refine va_get (D := (dC, dI)) (ci := 3) (v := .ref (h 5)) (C := R_S) (T := T_S) (N := 10) hx hb htb in_S hown hK hP 6 rfl rfl 2 (by decide) (htb _ tw_178) (fun _ h9 => h9) rfl d_S_entryStands_56 ?_
            obtain ⟨r_41, hc_42, hf⟩ := bd1_s hf
            refine ucVi (As := []) (rest := []) ⟨hx, hb, hml, hown, htb⟩ hK hP hD hS hA (fun hs => c_E_mark hc_42) (cwV 0 htb (gV tw_495 tw_496 tw_497 tw_72 tw_498) rfl rfl rfl (by decide +kernel) ⟨Nat.le_of_ble_eq_true rfl, Nat.le_of_ble_eq_true rfl⟩) 5 1 rfl rfl rfl rfl rfl hl.1 (Nat.le_of_ble_eq_true rfl) d_S_entryStands_59 ⟨Nat.zero_le _, Nat.zero_le _⟩ (fun H locs hP hD hS => ?_)
            refine lv_iconst (v := 2) hx hb d_S_entryStands_62 (by decide) ?_
            refine lv_icmp_ne (tgt := 70) hx hb d_S_entryStands_63 (by decide) (fun c_43 => ?_) (fun c_43 => ?_)
            · have hf := ite_f c_43 hf
              refine lv_iconst (v := 0) hx hb d_S_entryStands_70 (by decide) ?_
              cases hf
              exact hret _ _ _ _ (Or.inl rfl) hP hD hS d_S_entryStands_71
            · have hf := ite_t c_43 hf
              refine lv_iconst (v := 1) hx hb d_S_entryStands_66 (by decide) ?_
              refine lv_goto (tgt := 71) hx hb d_S_entryStands_67 (by decide) ?_
              cases hf
              exact hret _ _ _ _ (Or.inr rfl) hP hD hS d_S_entryStands_71
    · have hf := ite_t c_6 hf
      refine lv_iconst (v := 0) hx hb d_S_entryStands_20 (by decide) ?_
      cases hf
      exact hret _ _ _ _ (Or.inl rfl) hP hD hS d_S_entryStands_21
set_option maxHeartbeats 4000000 in
set_option maxRecDepth 100000 in
theorem c_S_entriesStand {l : Launch} {dC : Nat → ClassId} {dI : Nat → Nat → Nat} {N : Nat} {h : Nat → Nat} {cI : ClassId} {cL : ClassId} {NW : Nat} {bk : Int32} {sz : Int32} {wd : Nat → Int64} {mb : Nat → Int32} {gB : Int32} {gI : Int32} {gN : Int32} {iN : Int32} {dr : Int32} {es : Int64} {of : Int64} {od : Int32} {pl : Int64} {hd : Int64} {tk : Nat → Int32} {kn : Nat → Int32} {li : Nat → Int32} {pa : Nat → Int32} {ins : Nat → Int32} {cm : Int32} {fd : Int32} {hr : Int32} {hs : Nat} {a1 : Int32} {a2 : Int32} {r : Int32} {dr' : Int32} {es' : Int64} {of' : Int64} {od' : Int32} {pl' : Int64} {hd' : Int64} (hf : f_S_entriesStand N NW sz wd mb gI iN dr es of od pl hd a1 a2 = some (r, dr', es', of', od', pl', hd')) : Met l y_S_entriesStand ws_S_entriesStand { frames := 3, cells := 0, slots := 0, locals := 77 } (PcU (dC, dI) clAll [(cI, .int), (cL, .long)] (wC h cI cL NW bk sz wd mb gB gI gN iN dr es of od pl hd tk kn li pa ins cm fd hr) hs [.ref (h 6), .int a1, .int a2]) (QUi (dC, dI) clAll [(cI, .int), (cL, .long)] (wC h cI cL NW bk sz wd mb gB gI gN iN dr es of od pl hd tk kn li pa ins cm fd hr) (wC h cI cL NW bk sz wd mb gB gI gN iN dr' es' of' od' pl' hd' tk kn li pa ins cm fd hr) hs r) 0 0 (va_A (wC h cI cL NW bk sz wd mb gB gI gN iN dr es of od pl hd tk kn li pa ins cm fd hr) hs) := by
  refine mUz (cc := b_S_entriesStand) (maxL := 6) (by decide) rfl (Nat.le_of_ble_eq_true rfl) ?_
  intro p e s m args below meth c Q hx hb hml hts hown A hA hK hP hD hS hret ls hl
  have htb : ∀ w ∈ TB, w.before args s = true := fun w h => hts w (List.mem_cons_of_mem _ h)
  have hl : lv_has ls 6 [(0, .ref (h 6)), (1, .int a1), (2, .int a2)] := hl
  have hj_101 : ∀ (dr : Int32) (es : Int64) (of : Int64) (od : Int32) (pl : Int64) (hd : Int64) (H : Heap) (locs : List Loc) (ls : Array Slot), f_S_entriesStand_101 N NW sz wd mb gI iN dr es of od pl hd = some (r, dr', es', of', od', pl', hd') → va_P (dC, dI) clAll (wC h cI cL NW bk sz wd mb gB gI gN iN dr es of od pl hd tk kn li pa ins cm fd hr) H → va_D A (wC h cI cL NW bk sz wd mb gB gI gN iN dr es of od pl hd tk kn li pa ins cm fd hr) → va_S A s.heap H locs → lv_has ls 6 [(0, .ref (h 6))] → W p l e (headSpec ws_S_entriesStand { frames := 3, cells := 0, slots := 0, locals := 77 }).room s m args below meth c H locs 0 0 Q (F0 m 101 ls []) := by
    intro dr es of od pl hd H locs ls hf hP hD hS hl
    unfold f_S_entriesStand_101 at hf
    refine lv_aload_n hx hb d_S_entriesStand_101 rfl (lv_at hl 0 rfl) ?_
    refine va_get (D := (dC, dI)) (ci := 3) (v := .ref (h 5)) (C := R_S) (T := T_S) (N := 10) hx hb htb in_S hown hK hP 6 rfl rfl 2 (by decide) (htb _ tw_178) (fun _ h9 => h9) rfl d_S_entriesStand_102 ?_
    obtain ⟨r_1, hc_2, hf⟩ := bd1_s hf
    refine ucVi (As := []) (rest := []) ⟨hx, hb, hml, hown, htb⟩ hK hP hD hS hA (fun hs => c_E_order hc_2) (cwV 0 htb (gV tw_486 tw_487 tw_488 tw_72 tw_489) rfl rfl rfl (by decide +kernel) ⟨Nat.le_of_ble_eq_true rfl, Nat.le_of_ble_eq_true rfl⟩) 5 1 rfl rfl rfl rfl rfl hl.1 (Nat.le_of_ble_eq_true rfl) d_S_entriesStand_105 ⟨Nat.zero_le _, Nat.zero_le _⟩ (fun H locs hP hD hS => ?_)
    refine lv_iconst (v := 2) hx hb d_S_entriesStand_108 (by decide) ?_
    refine lv_icmp_lt (tgt := 116) hx hb d_S_entriesStand_109 (by decide) (fun c_3 => ?_) (fun c_3 => ?_)
    · have hf := ite_t c_3 hf
      refine lv_iconst (v := 0) hx hb d_S_entriesStand_116 (by decide) ?_
      cases hf
      exact hret _ _ _ _ (Or.inl rfl) hP hD hS d_S_entriesStand_117
    · have hf := ite_f c_3 hf
      refine lv_iconst (v := 1) hx hb d_S_entriesStand_112 (by decide) ?_
      refine lv_goto (tgt := 117) hx hb d_S_entriesStand_113 (by decide) ?_
      cases hf
      exact hret _ _ _ _ (Or.inr rfl) hP hD hS d_S_entriesStand_117
  have hj_38 : ∀ (k_38 : Nat) (dr : Int32) (es : Int64) (of : Int64) (od : Int32) (pl : Int64) (hd : Int64) (x1 : Int32) (x2 : Int32) (x5 : Int32) (H : Heap) (locs : List Loc) (ls : Array Slot), f_S_entriesStand_38 N NW sz wd mb gI iN k_38 dr es of od pl hd x1 x2 x5 = some (r, dr', es', of', od', pl', hd') → va_P (dC, dI) clAll (wC h cI cL NW bk sz wd mb gB gI gN iN dr es of od pl hd tk kn li pa ins cm fd hr) H → va_D A (wC h cI cL NW bk sz wd mb gB gI gN iN dr es of od pl hd tk kn li pa ins cm fd hr) → va_S A s.heap H locs → lv_has ls 6 [(0, .ref (h 6)), (1, .int x1), (2, .int x2), (5, .int x5)] → W p l e (headSpec ws_S_entriesStand { frames := 3, cells := 0, slots := 0, locals := 77 }).room s m args below meth c H locs 0 0 Q (F0 m 38 ls []) := by
    intro k_38
    induction k_38 with
    | zero => intro _ _ _ _ _ _ _ _ _ _ _ _ hf; exact absurd hf (by simp [f_S_entriesStand_38])
    | succ k_38 ih_38 =>
      have hj_88 : ∀ (dr : Int32) (es : Int64) (of : Int64) (od : Int32) (pl : Int64) (hd : Int64) (x1 : Int32) (x2 : Int32) (x5 : Int32) (H : Heap) (locs : List Loc) (ls : Array Slot), f_S_entriesStand_88 N NW sz wd mb gI iN (f_S_entriesStand_38 N NW sz wd mb gI iN k_38) dr es of od pl hd x1 x2 x5 = some (r, dr', es', of', od', pl', hd') → va_P (dC, dI) clAll (wC h cI cL NW bk sz wd mb gB gI gN iN dr es of od pl hd tk kn li pa ins cm fd hr) H → va_D A (wC h cI cL NW bk sz wd mb gB gI gN iN dr es of od pl hd tk kn li pa ins cm fd hr) → va_S A s.heap H locs → lv_has ls 6 [(0, .ref (h 6)), (1, .int x1), (2, .int x2), (5, .int x5)] → W p l e (headSpec ws_S_entriesStand { frames := 3, cells := 0, slots := 0, locals := 77 }).room s m args below meth c H locs 0 0 Q (F0 m 88 ls []) := by
        intro dr es of od pl hd x1 x2 x5 H locs ls hf hP hD hS hl
        unfold f_S_entriesStand_88 at hf
        refine lv_aload_n hx hb d_S_entriesStand_88 rfl (lv_at hl 0 rfl) ?_
        refine va_get (D := (dC, dI)) (ci := 3) (v := .ref (h 5)) (C := R_S) (T := T_S) (N := 10) hx hb htb in_S hown hK hP 6 rfl rfl 2 (by decide) (htb _ tw_178) (fun _ h9 => h9) rfl d_S_entriesStand_89 ?_
        obtain ⟨of_1, od_2, pl_3, hd_4, hc_5, hf⟩ := bd4_s hf
        refine ucVv (As := []) (rest := []) ⟨hx, hb, hml, hown, htb⟩ hK hP hD hS hA (fun hs => c_E_advance hc_5) (cwV 0 htb (gV tw_505 tw_506 tw_507 tw_72 tw_508) rfl rfl rfl (by decide +kernel) ⟨Nat.le_of_ble_eq_true rfl, Nat.le_of_ble_eq_true rfl⟩) 5 1 rfl rfl rfl rfl rfl hl.1 (Nat.le_of_ble_eq_true rfl) d_S_entriesStand_92 ⟨Nat.zero_le _, Nat.zero_le _⟩ (fun H locs hP hD hS => ?_)
        obtain ⟨v5_6, ev5_6, hf⟩ := lt1_s hf
        refine lv_iinc (v := v5_6) (lv' := [(5, .int v5_6), (0, .ref (h 6)), (1, .int x1), (2, .int x2)]) hx hb d_S_entriesStand_95 hl (k := 3) rfl (by rw [← ev5_6]; rfl) (by decide) rfl (fun ls hl => ?_)
        refine lv_goto (tgt := 38) hx hb d_S_entriesStand_98 (by decide) ?_
        exact ih_38 dr es of_1 od_2 pl_3 hd_4 x1 x2 v5_6 _ _ _ hf hP hD hS (lv_sub hl [1, 2, 3, 0] rfl)
      intro dr es of od pl hd x1 x2 x5 H locs ls hf hP hD hS hl
      rw [f_S_entriesStand_38] at hf
      refine lv_iload hx hb d_S_entriesStand_38 (lv_at hl 3 rfl) ?_
      refine lv_ldc (v := 43691) hx hb hown (htb _ tw_441) d_S_entriesStand_40 ?_
      refine lv_icmp_ge (tgt := 101) hx hb d_S_entriesStand_42 (by decide) (fun c_1 => ?_) (fun c_1 => ?_)
      · have hf := ite_t c_1 hf
        exact hj_101 dr es of od pl hd _ _ _ hf hP hD hS (lv_sub hl [0] rfl)
      · have hf := ite_f c_1 hf
        refine lv_aload_n hx hb d_S_entriesStand_45 rfl (lv_at hl 0 rfl) ?_
        refine va_get (D := (dC, dI)) (ci := 3) (v := .ref (h 5)) (C := R_S) (T := T_S) (N := 10) hx hb htb in_S hown hK hP 6 rfl rfl 2 (by decide) (htb _ tw_178) (fun _ h9 => h9) rfl d_S_entriesStand_46 ?_
        obtain ⟨r_2, hc_3, hf⟩ := bd1_s hf
        refine ucVi (As := []) (rest := []) ⟨hx, hb, hml, hown, htb⟩ hK hP hD hS hA (fun hs => c_E_isOn hc_3) (cwV 0 htb (gV tw_442 tw_443 tw_444 tw_72 tw_445) rfl rfl rfl (by decide +kernel) ⟨Nat.le_of_ble_eq_true rfl, Nat.le_of_ble_eq_true rfl⟩) 5 1 rfl rfl rfl rfl rfl hl.1 (Nat.le_of_ble_eq_true rfl) d_S_entriesStand_49 ⟨Nat.zero_le _, Nat.zero_le _⟩ (fun H locs hP hD hS => ?_)
        refine lv_if_eq (tgt := 101) hx hb d_S_entriesStand_52 (by decide) (fun c_4 => ?_) (fun c_4 => ?_)
        · have hf := ite_t c_4 hf
          exact hj_101 dr es of od pl hd _ _ _ hf hP hD hS (lv_sub hl [0] rfl)
        · have hf := ite_f c_4 hf
          refine lv_aload_n hx hb d_S_entriesStand_55 rfl (lv_at hl 0 rfl) ?_
          refine va_get (D := (dC, dI)) (ci := 3) (v := .ref (h 5)) (C := R_S) (T := T_S) (N := 10) hx hb htb in_S hown hK hP 6 rfl rfl 2 (by decide) (htb _ tw_178) (fun _ h9 => h9) rfl d_S_entriesStand_56 ?_
          obtain ⟨r_5, hc_6, hf⟩ := bd1_s hf
          refine ucVi (As := []) (rest := []) ⟨hx, hb, hml, hown, htb⟩ hK hP hD hS hA (fun hs => c_E_fits hc_6) (cwV 0 htb (gV tw_446 tw_447 tw_448 tw_72 tw_449) rfl rfl rfl (by decide +kernel) ⟨Nat.le_of_ble_eq_true rfl, Nat.le_of_ble_eq_true rfl⟩) 5 1 rfl rfl rfl rfl rfl hl.1 (Nat.le_of_ble_eq_true rfl) d_S_entriesStand_59 ⟨Nat.zero_le _, Nat.zero_le _⟩ (fun H locs hP hD hS => ?_)
          refine lv_if_ne (tgt := 67) hx hb d_S_entriesStand_62 (by decide) (fun c_7 => ?_) (fun c_7 => ?_)
          · have hf := ite_f c_7 hf
            refine lv_aload_n hx hb d_S_entriesStand_67 rfl (lv_at hl 0 rfl) ?_
            refine va_get (D := (dC, dI)) (ci := 3) (v := .ref (h 5)) (C := R_S) (T := T_S) (N := 10) hx hb htb in_S hown hK hP 6 rfl rfl 2 (by decide) (htb _ tw_178) (fun _ h9 => h9) rfl d_S_entriesStand_68 ?_
            obtain ⟨r_8, hc_9, hf⟩ := bd1_s hf
            refine ucVi (As := []) (rest := []) ⟨hx, hb, hml, hown, htb⟩ hK hP hD hS hA (fun hs => c_E_isEmpty hc_9) (cwV 0 htb (gV tw_455 tw_456 tw_457 tw_72 tw_458) rfl rfl rfl (by decide +kernel) ⟨Nat.le_of_ble_eq_true rfl, Nat.le_of_ble_eq_true rfl⟩) 5 1 rfl rfl rfl rfl rfl hl.1 (Nat.le_of_ble_eq_true rfl) d_S_entriesStand_71 ⟨Nat.zero_le _, Nat.zero_le _⟩ (fun H locs hP hD hS => ?_)
            refine lv_if_ne (tgt := 88) hx hb d_S_entriesStand_74 (by decide) (fun c_10 => ?_) (fun c_10 => ?_)
            · have hf := ite_f c_10 hf
              exact hj_88 dr es of od pl hd x1 x2 x5 _ _ _ hf hP hD hS (lv_sub hl [0, 1, 2, 3] rfl)
            · have hf := ite_t c_10 hf
              refine lv_aload_n hx hb d_S_entriesStand_77 rfl (lv_at hl 0 rfl) ?_
              refine lv_iload_n hx hb d_S_entriesStand_78 rfl (lv_at hl 1 rfl) ?_
              refine lv_iload_n hx hb d_S_entriesStand_79 rfl (lv_at hl 2 rfl) ?_
              obtain ⟨r_11, hc_12, hf⟩ := bd1_s hf
              refine ucVi (As := [.int x1, .int x2]) (rest := []) ⟨hx, hb, hml, hown, htb⟩ hK hP hD hS hA (fun hs => c_S_entryStands hc_12) (cwV 2 htb (gV tw_460 tw_462 tw_13 tw_73 tw_463) rfl rfl rfl (by decide +kernel) ⟨Nat.le_of_ble_eq_true rfl, Nat.le_of_ble_eq_true rfl⟩) 6 3 rfl rfl rfl rfl rfl hl.1 (Nat.le_of_ble_eq_true rfl) d_S_entriesStand_80 ⟨Nat.zero_le _, Nat.zero_le _⟩ (fun H locs hP hD hS => ?_)
              refine lv_if_ne (tgt := 88) hx hb d_S_entriesStand_83 (by decide) (fun c_13 => ?_) (fun c_13 => ?_)
              · have hf := ite_f c_13 hf
                exact hj_88 dr es of od pl hd x1 x2 x5 _ _ _ hf hP hD hS (lv_sub hl [0, 1, 2, 3] rfl)
              · have hf := ite_t c_13 hf
                refine lv_iconst (v := 0) hx hb d_S_entriesStand_86 (by decide) ?_
                cases hf
                exact hret _ _ _ _ (Or.inl rfl) hP hD hS d_S_entriesStand_87
          · have hf := ite_t c_7 hf
            refine lv_iconst (v := 0) hx hb d_S_entriesStand_65 (by decide) ?_
            cases hf
            exact hret _ _ _ _ (Or.inl rfl) hP hD hS d_S_entriesStand_66
  unfold f_S_entriesStand at hf
  refine lv_aload_n hx hb d_S_entriesStand_0 rfl (lv_at hl 0 rfl) ?_
  refine va_get (D := (dC, dI)) (ci := 3) (v := .ref (h 3)) (C := R_S) (T := T_S) (N := 10) hx hb htb in_S hown hK hP 6 rfl rfl 1 (by decide) (htb _ tw_177) (fun _ h9 => h9) rfl d_S_entriesStand_1 ?_
  refine lv_iload_n hx hb d_S_entriesStand_4 rfl (lv_at hl 1 rfl) ?_
  obtain ⟨r_1, hc_2, hf⟩ := bd1_s hf
  refine ucVl (As := [.int a1]) (rest := []) ⟨hx, hb, hml, hown, htb⟩ hK hP hD hS hA (fun hs => c_L_sizeOf hc_2) (cwV 1 htb (gV tw_392 tw_393 tw_394 tw_71 tw_395) rfl rfl rfl (by decide +kernel) ⟨Nat.le_of_ble_eq_true rfl, Nat.le_of_ble_eq_true rfl⟩) 3 2 rfl rfl rfl rfl rfl hl.1 (Nat.le_of_ble_eq_true rfl) d_S_entriesStand_5 ⟨Nat.zero_le _, Nat.zero_le _⟩ (fun H locs hP hD hS => ?_)
  refine lv_lstore_n (lv' := [(3, .long r_1), (0, .ref (h 6)), (1, .int a1), (2, .int a2)]) hx hb d_S_entriesStand_8 rfl hl (by decide) rfl (fun ls hl => ?_)
  refine lv_lload_n hx hb d_S_entriesStand_9 rfl (lv_at hl 0 rfl) ?_
  refine lv_lconst (v := 0) hx hb d_S_entriesStand_10 (by decide) ?_
  refine lc_eq (tgt := 25) hx hb d_S_entriesStand_11 d_S_entriesStand_12 (by decide) (fun c_3 => ?_) (fun c_3 => ?_)
  · have hf := ite_t c_3 hf
    refine lv_iconst (v := 0) hx hb d_S_entriesStand_25 (by decide) ?_
    cases hf
    exact hret _ _ _ _ (Or.inl rfl) hP hD hS d_S_entriesStand_26
  · have hf := ite_f c_3 hf
    refine lv_lload_n hx hb d_S_entriesStand_15 rfl (lv_at hl 0 rfl) ?_
    refine lv_ldc2 (v := 1024) hx hb hown (htb _ tw_339) d_S_entriesStand_16 ?_
    refine lv_lrem hx hb d_S_entriesStand_19 (by decide) ?_
    refine lv_lconst (v := 0) hx hb d_S_entriesStand_20 (by decide) ?_
    refine lc_eq (tgt := 27) hx hb d_S_entriesStand_21 d_S_entriesStand_22 (by decide) (fun c_4 => ?_) (fun c_4 => ?_)
    · have hf := ite_t c_4 hf
      refine lv_aload_n hx hb d_S_entriesStand_27 rfl (lv_at hl 1 rfl) ?_
      refine va_get (D := (dC, dI)) (ci := 3) (v := .ref (h 5)) (C := R_S) (T := T_S) (N := 10) hx hb htb in_S hown hK hP 6 rfl rfl 2 (by decide) (htb _ tw_178) (fun _ h9 => h9) rfl d_S_entriesStand_28 ?_
      refine lv_iload_n hx hb d_S_entriesStand_31 rfl (lv_at hl 2 rfl) ?_
      obtain ⟨dr_5, es_6, of_7, od_8, pl_9, hd_10, hc_11, hf⟩ := bd6_s hf
      refine ucVv (As := [.int a1]) (rest := []) ⟨hx, hb, hml, hown, htb⟩ hK hP hD hS hA (fun hs => c_E_start hc_11) (cwV 1 htb (gV tw_433 tw_434 tw_435 tw_72 tw_436) rfl rfl rfl (by decide +kernel) ⟨Nat.le_of_ble_eq_true rfl, Nat.le_of_ble_eq_true rfl⟩) 5 1 rfl rfl rfl rfl rfl hl.1 (Nat.le_of_ble_eq_true rfl) d_S_entriesStand_32 ⟨Nat.zero_le _, Nat.zero_le _⟩ (fun H locs hP hD hS => ?_)
      refine lv_iconst (v := 0) hx hb d_S_entriesStand_35 (by decide) ?_
      refine lv_istore (lv' := [(5, .int ((0 : Int32))), (3, .long r_1), (0, .ref (h 6)), (1, .int a1), (2, .int a2)]) hx hb d_S_entriesStand_36 hl (by decide) rfl (fun ls hl => ?_)
      exact hj_38 N dr_5 es_6 of_7 od_8 pl_9 hd_10 a1 a2 ((0 : Int32)) _ _ _ hf hP hD hS (lv_sub hl [2, 3, 4, 0] rfl)
    · have hf := ite_f c_4 hf
      refine lv_iconst (v := 0) hx hb d_S_entriesStand_25 (by decide) ?_
      cases hf
      exact hret _ _ _ _ (Or.inl rfl) hP hD hS d_S_entriesStand_26
end
section
theorem d_S_isKnown_0 : decode b_S_isKnown 0 = .ok (.iload_n 1, 1) := by decide +kernel
theorem d_S_isKnown_1 : decode b_S_isKnown 1 = .ok (.iconst 1, 1) := by decide +kernel
theorem d_S_isKnown_2 : decode b_S_isKnown 2 = .ok (.if_icmp .lt 26, 3) := by decide +kernel
theorem d_S_isKnown_5 : decode b_S_isKnown 5 = .ok (.iload_n 1, 1) := by decide +kernel
theorem d_S_isKnown_6 : decode b_S_isKnown 6 = .ok (.aload_n 0, 1) := by decide +kernel
theorem d_S_isKnown_7 : decode b_S_isKnown 7 = .ok (.getfield 27, 3) := by decide +kernel
theorem d_S_isKnown_10 : decode b_S_isKnown 10 = .ok (.arraylength, 1) := by decide +kernel
theorem d_S_isKnown_11 : decode b_S_isKnown 11 = .ok (.if_icmp .ge 17, 3) := by decide +kernel
theorem d_S_isKnown_14 : decode b_S_isKnown 14 = .ok (.aload_n 0, 1) := by decide +kernel
theorem d_S_isKnown_15 : decode b_S_isKnown 15 = .ok (.getfield 27, 3) := by decide +kernel
theorem d_S_isKnown_18 : decode b_S_isKnown 18 = .ok (.iload_n 1, 1) := by decide +kernel
theorem d_S_isKnown_19 : decode b_S_isKnown 19 = .ok (.iaload, 1) := by decide +kernel
theorem d_S_isKnown_20 : decode b_S_isKnown 20 = .ok (.iconst 1, 1) := by decide +kernel
theorem d_S_isKnown_21 : decode b_S_isKnown 21 = .ok (.if_icmp .ne 7, 3) := by decide +kernel
theorem d_S_isKnown_24 : decode b_S_isKnown 24 = .ok (.iconst 1, 1) := by decide +kernel
theorem d_S_isKnown_25 : decode b_S_isKnown 25 = .ok (.goto 4, 3) := by decide +kernel
theorem d_S_isKnown_28 : decode b_S_isKnown 28 = .ok (.iconst 0, 1) := by decide +kernel
theorem d_S_isKnown_29 : decode b_S_isKnown 29 = .ok (.ireturn, 1) := by decide +kernel
theorem d_S_itemsComeUp_0 : decode b_S_itemsComeUp 0 = .ok (.iload_n 1, 1) := by decide +kernel
theorem d_S_itemsComeUp_1 : decode b_S_itemsComeUp 1 = .ok (.ifCond .lt 12, 3) := by decide +kernel
theorem d_S_itemsComeUp_4 : decode b_S_itemsComeUp 4 = .ok (.iload_n 1, 1) := by decide +kernel
theorem d_S_itemsComeUp_5 : decode b_S_itemsComeUp 5 = .ok (.aload_n 0, 1) := by decide +kernel
theorem d_S_itemsComeUp_6 : decode b_S_itemsComeUp 6 = .ok (.getfield 30, 3) := by decide +kernel
theorem d_S_itemsComeUp_9 : decode b_S_itemsComeUp 9 = .ok (.arraylength, 1) := by decide +kernel
theorem d_S_itemsComeUp_10 : decode b_S_itemsComeUp 10 = .ok (.if_icmp .lt 5, 3) := by decide +kernel
theorem d_S_itemsComeUp_13 : decode b_S_itemsComeUp 13 = .ok (.iconst 0, 1) := by decide +kernel
theorem d_S_itemsComeUp_14 : decode b_S_itemsComeUp 14 = .ok (.ireturn, 1) := by decide +kernel
theorem d_S_itemsComeUp_15 : decode b_S_itemsComeUp 15 = .ok (.aload_n 0, 1) := by decide +kernel
theorem d_S_itemsComeUp_16 : decode b_S_itemsComeUp 16 = .ok (.getfield 30, 3) := by decide +kernel
theorem d_S_itemsComeUp_19 : decode b_S_itemsComeUp 19 = .ok (.iload_n 1, 1) := by decide +kernel
theorem d_S_itemsComeUp_20 : decode b_S_itemsComeUp 20 = .ok (.iaload, 1) := by decide +kernel
theorem d_S_itemsComeUp_21 : decode b_S_itemsComeUp 21 = .ok (.istore_n 2, 1) := by decide +kernel
theorem d_S_itemsComeUp_22 : decode b_S_itemsComeUp 22 = .ok (.aload_n 0, 1) := by decide +kernel
theorem d_S_itemsComeUp_23 : decode b_S_itemsComeUp 23 = .ok (.getfield 19, 3) := by decide +kernel
theorem d_S_itemsComeUp_26 : decode b_S_itemsComeUp 26 = .ok (.iload_n 2, 1) := by decide +kernel
theorem d_S_itemsComeUp_27 : decode b_S_itemsComeUp 27 = .ok (.invokevirtual 189, 3) := by decide +kernel
theorem d_S_itemsComeUp_30 : decode b_S_itemsComeUp 30 = .ok (.iconst 0, 1) := by decide +kernel
theorem d_S_itemsComeUp_31 : decode b_S_itemsComeUp 31 = .ok (.istore_n 3, 1) := by decide +kernel
theorem d_S_itemsComeUp_32 : decode b_S_itemsComeUp 32 = .ok (.iload_n 3, 1) := by decide +kernel
theorem d_S_itemsComeUp_33 : decode b_S_itemsComeUp 33 = .ok (.ldc 195, 2) := by decide +kernel
theorem d_S_itemsComeUp_35 : decode b_S_itemsComeUp 35 = .ok (.if_icmp .ge 93, 3) := by decide +kernel
theorem d_S_itemsComeUp_38 : decode b_S_itemsComeUp 38 = .ok (.aload_n 0, 1) := by decide +kernel
theorem d_S_itemsComeUp_39 : decode b_S_itemsComeUp 39 = .ok (.getfield 19, 3) := by decide +kernel
theorem d_S_itemsComeUp_42 : decode b_S_itemsComeUp 42 = .ok (.invokevirtual 196, 3) := by decide +kernel
theorem d_S_itemsComeUp_45 : decode b_S_itemsComeUp 45 = .ok (.ifCond .eq 83, 3) := by decide +kernel
theorem d_S_itemsComeUp_48 : decode b_S_itemsComeUp 48 = .ok (.aload_n 0, 1) := by decide +kernel
theorem d_S_itemsComeUp_49 : decode b_S_itemsComeUp 49 = .ok (.getfield 19, 3) := by decide +kernel
theorem d_S_itemsComeUp_52 : decode b_S_itemsComeUp 52 = .ok (.invokevirtual 233, 3) := by decide +kernel
theorem d_S_itemsComeUp_55 : decode b_S_itemsComeUp 55 = .ok (.ifCond .eq 60, 3) := by decide +kernel
theorem d_S_itemsComeUp_58 : decode b_S_itemsComeUp 58 = .ok (.aload_n 0, 1) := by decide +kernel
theorem d_S_itemsComeUp_59 : decode b_S_itemsComeUp 59 = .ok (.getfield 19, 3) := by decide +kernel
theorem d_S_itemsComeUp_62 : decode b_S_itemsComeUp 62 = .ok (.invokevirtual 220, 3) := by decide +kernel
theorem d_S_itemsComeUp_65 : decode b_S_itemsComeUp 65 = .ok (.istore 4, 2) := by decide +kernel
theorem d_S_itemsComeUp_67 : decode b_S_itemsComeUp 67 = .ok (.aload_n 0, 1) := by decide +kernel
theorem d_S_itemsComeUp_68 : decode b_S_itemsComeUp 68 = .ok (.iload 4, 2) := by decide +kernel
theorem d_S_itemsComeUp_70 : decode b_S_itemsComeUp 70 = .ok (.invokevirtual 236, 3) := by decide +kernel
theorem d_S_itemsComeUp_73 : decode b_S_itemsComeUp 73 = .ok (.ifCond .ne 12, 3) := by decide +kernel
theorem d_S_itemsComeUp_76 : decode b_S_itemsComeUp 76 = .ok (.aload_n 0, 1) := by decide +kernel
theorem d_S_itemsComeUp_77 : decode b_S_itemsComeUp 77 = .ok (.iload 4, 2) := by decide +kernel
theorem d_S_itemsComeUp_79 : decode b_S_itemsComeUp 79 = .ok (.invokevirtual 143, 3) := by decide +kernel
theorem d_S_itemsComeUp_82 : decode b_S_itemsComeUp 82 = .ok (.ifCond .ne 5, 3) := by decide +kernel
theorem d_S_itemsComeUp_85 : decode b_S_itemsComeUp 85 = .ok (.iconst 0, 1) := by decide +kernel
theorem d_S_itemsComeUp_86 : decode b_S_itemsComeUp 86 = .ok (.ireturn, 1) := by decide +kernel
theorem d_S_itemsComeUp_87 : decode b_S_itemsComeUp 87 = .ok (.aload_n 0, 1) := by decide +kernel
theorem d_S_itemsComeUp_88 : decode b_S_itemsComeUp 88 = .ok (.iload 4, 2) := by decide +kernel
theorem d_S_itemsComeUp_90 : decode b_S_itemsComeUp 90 = .ok (.iload_n 2, 1) := by decide +kernel
theorem d_S_itemsComeUp_91 : decode b_S_itemsComeUp 91 = .ok (.invokevirtual 146, 3) := by decide +kernel
theorem d_S_itemsComeUp_94 : decode b_S_itemsComeUp 94 = .ok (.aload_n 0, 1) := by decide +kernel
theorem d_S_itemsComeUp_95 : decode b_S_itemsComeUp 95 = .ok (.getfield 19, 3) := by decide +kernel
theorem d_S_itemsComeUp_98 : decode b_S_itemsComeUp 98 = .ok (.invokevirtual 226, 3) := by decide +kernel
theorem d_S_itemsComeUp_101 : decode b_S_itemsComeUp 101 = .ok (.iconst 2, 1) := by decide +kernel
theorem d_S_itemsComeUp_102 : decode b_S_itemsComeUp 102 = .ok (.if_icmp .ne 13, 3) := by decide +kernel
theorem d_S_itemsComeUp_105 : decode b_S_itemsComeUp 105 = .ok (.aload_n 0, 1) := by decide +kernel
theorem d_S_itemsComeUp_106 : decode b_S_itemsComeUp 106 = .ok (.getfield 36, 3) := by decide +kernel
theorem d_S_itemsComeUp_109 : decode b_S_itemsComeUp 109 = .ok (.iload_n 1, 1) := by decide +kernel
theorem d_S_itemsComeUp_110 : decode b_S_itemsComeUp 110 = .ok (.dup2, 1) := by decide +kernel
theorem d_S_itemsComeUp_111 : decode b_S_itemsComeUp 111 = .ok (.iaload, 1) := by decide +kernel
theorem d_S_itemsComeUp_112 : decode b_S_itemsComeUp 112 = .ok (.iconst 1, 1) := by decide +kernel
theorem d_S_itemsComeUp_113 : decode b_S_itemsComeUp 113 = .ok (.iadd, 1) := by decide +kernel
theorem d_S_itemsComeUp_114 : decode b_S_itemsComeUp 114 = .ok (.iastore, 1) := by decide +kernel
theorem d_S_itemsComeUp_115 : decode b_S_itemsComeUp 115 = .ok (.aload_n 0, 1) := by decide +kernel
theorem d_S_itemsComeUp_116 : decode b_S_itemsComeUp 116 = .ok (.getfield 19, 3) := by decide +kernel
theorem d_S_itemsComeUp_119 : decode b_S_itemsComeUp 119 = .ok (.invokevirtual 208, 3) := by decide +kernel
theorem d_S_itemsComeUp_122 : decode b_S_itemsComeUp 122 = .ok (.iinc 3 1, 3) := by decide +kernel
theorem d_S_itemsComeUp_125 : decode b_S_itemsComeUp 125 = .ok (.goto (-93), 3) := by decide +kernel
theorem d_S_itemsComeUp_128 : decode b_S_itemsComeUp 128 = .ok (.iconst 1, 1) := by decide +kernel
theorem d_S_itemsComeUp_129 : decode b_S_itemsComeUp 129 = .ok (.ireturn, 1) := by decide +kernel
theorem d_S_treeFault_0 : decode b_S_treeFault 0 = .ok (.aload_n 0, 1) := by decide +kernel
theorem d_S_treeFault_1 : decode b_S_treeFault 1 = .ok (.getfield 27, 3) := by decide +kernel
theorem d_S_treeFault_4 : decode b_S_treeFault 4 = .ok (.iconst 0, 1) := by decide +kernel
theorem d_S_treeFault_5 : decode b_S_treeFault 5 = .ok (.invokestatic 108, 3) := by decide +kernel
theorem d_S_treeFault_8 : decode b_S_treeFault 8 = .ok (.aload_n 0, 1) := by decide +kernel
theorem d_S_treeFault_9 : decode b_S_treeFault 9 = .ok (.iconst 0, 1) := by decide +kernel
theorem d_S_treeFault_10 : decode b_S_treeFault 10 = .ok (.putfield 134, 3) := by decide +kernel
theorem d_S_treeFault_13 : decode b_S_treeFault 13 = .ok (.aload_n 0, 1) := by decide +kernel
theorem d_S_treeFault_14 : decode b_S_treeFault 14 = .ok (.getfield 15, 3) := by decide +kernel
theorem d_S_treeFault_17 : decode b_S_treeFault 17 = .ok (.iconst 2, 1) := by decide +kernel
theorem d_S_treeFault_18 : decode b_S_treeFault 18 = .ok (.invokevirtual 137, 3) := by decide +kernel
theorem d_S_treeFault_21 : decode b_S_treeFault 21 = .ok (.ifCond .eq 25, 3) := by decide +kernel
theorem d_S_treeFault_24 : decode b_S_treeFault 24 = .ok (.aload_n 0, 1) := by decide +kernel
theorem d_S_treeFault_25 : decode b_S_treeFault 25 = .ok (.getfield 15, 3) := by decide +kernel
theorem d_S_treeFault_28 : decode b_S_treeFault 28 = .ok (.iconst 2, 1) := by decide +kernel
theorem d_S_treeFault_29 : decode b_S_treeFault 29 = .ok (.invokevirtual 140, 3) := by decide +kernel
theorem d_S_treeFault_32 : decode b_S_treeFault 32 = .ok (.sipush 16384, 3) := by decide +kernel
theorem d_S_treeFault_35 : decode b_S_treeFault 35 = .ok (.if_icmp .ne 11, 3) := by decide +kernel
theorem d_S_treeFault_38 : decode b_S_treeFault 38 = .ok (.aload_n 0, 1) := by decide +kernel
theorem d_S_treeFault_39 : decode b_S_treeFault 39 = .ok (.iconst 2, 1) := by decide +kernel
theorem d_S_treeFault_40 : decode b_S_treeFault 40 = .ok (.invokevirtual 143, 3) := by decide +kernel
theorem d_S_treeFault_43 : decode b_S_treeFault 43 = .ok (.ifCond .ne 5, 3) := by decide +kernel
theorem d_S_treeFault_46 : decode b_S_treeFault 46 = .ok (.iconst 4, 1) := by decide +kernel
theorem d_S_treeFault_47 : decode b_S_treeFault 47 = .ok (.ireturn, 1) := by decide +kernel
theorem d_S_treeFault_48 : decode b_S_treeFault 48 = .ok (.aload_n 0, 1) := by decide +kernel
theorem d_S_treeFault_49 : decode b_S_treeFault 49 = .ok (.iconst 2, 1) := by decide +kernel
theorem d_S_treeFault_50 : decode b_S_treeFault 50 = .ok (.iconst 2, 1) := by decide +kernel
theorem d_S_treeFault_51 : decode b_S_treeFault 51 = .ok (.invokevirtual 146, 3) := by decide +kernel
theorem d_S_treeFault_54 : decode b_S_treeFault 54 = .ok (.iconst 0, 1) := by decide +kernel
theorem d_S_treeFault_55 : decode b_S_treeFault 55 = .ok (.istore_n 1, 1) := by decide +kernel
theorem d_S_treeFault_56 : decode b_S_treeFault 56 = .ok (.iload_n 1, 1) := by decide +kernel
theorem d_S_treeFault_57 : decode b_S_treeFault 57 = .ok (.aload_n 0, 1) := by decide +kernel
theorem d_S_treeFault_58 : decode b_S_treeFault 58 = .ok (.getfield 134, 3) := by decide +kernel
theorem d_S_treeFault_61 : decode b_S_treeFault 61 = .ok (.if_icmp .ge 68, 3) := by decide +kernel
theorem d_S_treeFault_64 : decode b_S_treeFault 64 = .ok (.iload_n 1, 1) := by decide +kernel
theorem d_S_treeFault_65 : decode b_S_treeFault 65 = .ok (.aload_n 0, 1) := by decide +kernel
theorem d_S_treeFault_66 : decode b_S_treeFault 66 = .ok (.getfield 30, 3) := by decide +kernel
theorem d_S_treeFault_69 : decode b_S_treeFault 69 = .ok (.arraylength, 1) := by decide +kernel
theorem d_S_treeFault_70 : decode b_S_treeFault 70 = .ok (.if_icmp .ge 59, 3) := by decide +kernel
theorem d_S_treeFault_73 : decode b_S_treeFault 73 = .ok (.aload_n 0, 1) := by decide +kernel
theorem d_S_treeFault_74 : decode b_S_treeFault 74 = .ok (.getfield 15, 3) := by decide +kernel
theorem d_S_treeFault_77 : decode b_S_treeFault 77 = .ok (.aload_n 0, 1) := by decide +kernel
theorem d_S_treeFault_78 : decode b_S_treeFault 78 = .ok (.getfield 30, 3) := by decide +kernel
theorem d_S_treeFault_81 : decode b_S_treeFault 81 = .ok (.iload_n 1, 1) := by decide +kernel
theorem d_S_treeFault_82 : decode b_S_treeFault 82 = .ok (.iaload, 1) := by decide +kernel
theorem d_S_treeFault_83 : decode b_S_treeFault 83 = .ok (.invokevirtual 140, 3) := by decide +kernel
theorem d_S_treeFault_86 : decode b_S_treeFault 86 = .ok (.sipush 16384, 3) := by decide +kernel
theorem d_S_treeFault_89 : decode b_S_treeFault 89 = .ok (.if_icmp .ne 34, 3) := by decide +kernel
theorem d_S_treeFault_92 : decode b_S_treeFault 92 = .ok (.aload_n 0, 1) := by decide +kernel
theorem d_S_treeFault_93 : decode b_S_treeFault 93 = .ok (.aload_n 0, 1) := by decide +kernel
theorem d_S_treeFault_94 : decode b_S_treeFault 94 = .ok (.getfield 30, 3) := by decide +kernel
theorem d_S_treeFault_97 : decode b_S_treeFault 97 = .ok (.iload_n 1, 1) := by decide +kernel
theorem d_S_treeFault_98 : decode b_S_treeFault 98 = .ok (.iaload, 1) := by decide +kernel
theorem d_S_treeFault_99 : decode b_S_treeFault 99 = .ok (.aload_n 0, 1) := by decide +kernel
theorem d_S_treeFault_100 : decode b_S_treeFault 100 = .ok (.getfield 33, 3) := by decide +kernel
theorem d_S_treeFault_103 : decode b_S_treeFault 103 = .ok (.iload_n 1, 1) := by decide +kernel
theorem d_S_treeFault_104 : decode b_S_treeFault 104 = .ok (.iaload, 1) := by decide +kernel
theorem d_S_treeFault_105 : decode b_S_treeFault 105 = .ok (.invokevirtual 149, 3) := by decide +kernel
theorem d_S_treeFault_108 : decode b_S_treeFault 108 = .ok (.ifCond .ne 5, 3) := by decide +kernel
theorem d_S_treeFault_111 : decode b_S_treeFault 111 = .ok (.iconst 5, 1) := by decide +kernel
theorem d_S_treeFault_112 : decode b_S_treeFault 112 = .ok (.ireturn, 1) := by decide +kernel
theorem d_S_treeFault_113 : decode b_S_treeFault 113 = .ok (.aload_n 0, 1) := by decide +kernel
theorem d_S_treeFault_114 : decode b_S_treeFault 114 = .ok (.iload_n 1, 1) := by decide +kernel
theorem d_S_treeFault_115 : decode b_S_treeFault 115 = .ok (.invokevirtual 153, 3) := by decide +kernel
theorem d_S_treeFault_118 : decode b_S_treeFault 118 = .ok (.ifCond .ne 5, 3) := by decide +kernel
theorem d_S_treeFault_121 : decode b_S_treeFault 121 = .ok (.iconst 4, 1) := by decide +kernel
theorem d_S_treeFault_122 : decode b_S_treeFault 122 = .ok (.ireturn, 1) := by decide +kernel
theorem d_S_treeFault_123 : decode b_S_treeFault 123 = .ok (.iinc 1 1, 3) := by decide +kernel
theorem d_S_treeFault_126 : decode b_S_treeFault 126 = .ok (.goto (-70), 3) := by decide +kernel
theorem d_S_treeFault_129 : decode b_S_treeFault 129 = .ok (.iconst 0, 1) := by decide +kernel
theorem d_S_treeFault_130 : decode b_S_treeFault 130 = .ok (.ireturn, 1) := by decide +kernel
theorem d_S_linksStand_0 : decode b_S_linksStand 0 = .ok (.iconst 0, 1) := by decide +kernel
theorem d_S_linksStand_1 : decode b_S_linksStand 1 = .ok (.istore_n 1, 1) := by decide +kernel
theorem d_S_linksStand_2 : decode b_S_linksStand 2 = .ok (.iload_n 1, 1) := by decide +kernel
theorem d_S_linksStand_3 : decode b_S_linksStand 3 = .ok (.aload_n 0, 1) := by decide +kernel
theorem d_S_linksStand_4 : decode b_S_linksStand 4 = .ok (.getfield 134, 3) := by decide +kernel
theorem d_S_linksStand_7 : decode b_S_linksStand 7 = .ok (.if_icmp .ge 74, 3) := by decide +kernel
theorem d_S_linksStand_10 : decode b_S_linksStand 10 = .ok (.iload_n 1, 1) := by decide +kernel
theorem d_S_linksStand_11 : decode b_S_linksStand 11 = .ok (.aload_n 0, 1) := by decide +kernel
theorem d_S_linksStand_12 : decode b_S_linksStand 12 = .ok (.getfield 30, 3) := by decide +kernel
theorem d_S_linksStand_15 : decode b_S_linksStand 15 = .ok (.arraylength, 1) := by decide +kernel
theorem d_S_linksStand_16 : decode b_S_linksStand 16 = .ok (.if_icmp .ge 65, 3) := by decide +kernel
theorem d_S_linksStand_19 : decode b_S_linksStand 19 = .ok (.aload_n 0, 1) := by decide +kernel
theorem d_S_linksStand_20 : decode b_S_linksStand 20 = .ok (.getfield 15, 3) := by decide +kernel
theorem d_S_linksStand_23 : decode b_S_linksStand 23 = .ok (.aload_n 0, 1) := by decide +kernel
theorem d_S_linksStand_24 : decode b_S_linksStand 24 = .ok (.getfield 30, 3) := by decide +kernel
theorem d_S_linksStand_27 : decode b_S_linksStand 27 = .ok (.iload_n 1, 1) := by decide +kernel
theorem d_S_linksStand_28 : decode b_S_linksStand 28 = .ok (.iaload, 1) := by decide +kernel
theorem d_S_linksStand_29 : decode b_S_linksStand 29 = .ok (.invokevirtual 140, 3) := by decide +kernel
theorem d_S_linksStand_32 : decode b_S_linksStand 32 = .ok (.sipush 16384, 3) := by decide +kernel
theorem d_S_linksStand_35 : decode b_S_linksStand 35 = .ok (.if_icmp .ne 14, 3) := by decide +kernel
theorem d_S_linksStand_38 : decode b_S_linksStand 38 = .ok (.iconst 2, 1) := by decide +kernel
theorem d_S_linksStand_39 : decode b_S_linksStand 39 = .ok (.aload_n 0, 1) := by decide +kernel
theorem d_S_linksStand_40 : decode b_S_linksStand 40 = .ok (.getfield 36, 3) := by decide +kernel
theorem d_S_linksStand_43 : decode b_S_linksStand 43 = .ok (.iload_n 1, 1) := by decide +kernel
theorem d_S_linksStand_44 : decode b_S_linksStand 44 = .ok (.iaload, 1) := by decide +kernel
theorem d_S_linksStand_45 : decode b_S_linksStand 45 = .ok (.iadd, 1) := by decide +kernel
theorem d_S_linksStand_46 : decode b_S_linksStand 46 = .ok (.goto 4, 3) := by decide +kernel
theorem d_S_linksStand_49 : decode b_S_linksStand 49 = .ok (.iconst 1, 1) := by decide +kernel
theorem d_S_linksStand_50 : decode b_S_linksStand 50 = .ok (.istore_n 2, 1) := by decide +kernel
theorem d_S_linksStand_51 : decode b_S_linksStand 51 = .ok (.aload_n 0, 1) := by decide +kernel
theorem d_S_linksStand_52 : decode b_S_linksStand 52 = .ok (.getfield 15, 3) := by decide +kernel
theorem d_S_linksStand_55 : decode b_S_linksStand 55 = .ok (.aload_n 0, 1) := by decide +kernel
theorem d_S_linksStand_56 : decode b_S_linksStand 56 = .ok (.getfield 30, 3) := by decide +kernel
theorem d_S_linksStand_59 : decode b_S_linksStand 59 = .ok (.iload_n 1, 1) := by decide +kernel
theorem d_S_linksStand_60 : decode b_S_linksStand 60 = .ok (.iaload, 1) := by decide +kernel
theorem d_S_linksStand_61 : decode b_S_linksStand 61 = .ok (.bipush 26, 2) := by decide +kernel
theorem d_S_linksStand_63 : decode b_S_linksStand 63 = .ok (.iconst 2, 1) := by decide +kernel
theorem d_S_linksStand_64 : decode b_S_linksStand 64 = .ok (.invokevirtual 164, 3) := by decide +kernel
theorem d_S_linksStand_67 : decode b_S_linksStand 67 = .ok (.iload_n 2, 1) := by decide +kernel
theorem d_S_linksStand_68 : decode b_S_linksStand 68 = .ok (.i2l, 1) := by decide +kernel
theorem d_S_linksStand_69 : decode b_S_linksStand 69 = .ok (.lcmp, 1) := by decide +kernel
theorem d_S_linksStand_70 : decode b_S_linksStand 70 = .ok (.ifCond .eq 5, 3) := by decide +kernel
theorem d_S_linksStand_73 : decode b_S_linksStand 73 = .ok (.iconst 0, 1) := by decide +kernel
theorem d_S_linksStand_74 : decode b_S_linksStand 74 = .ok (.ireturn, 1) := by decide +kernel
theorem d_S_linksStand_75 : decode b_S_linksStand 75 = .ok (.iinc 1 1, 3) := by decide +kernel
theorem d_S_linksStand_78 : decode b_S_linksStand 78 = .ok (.goto (-76), 3) := by decide +kernel
theorem d_S_linksStand_81 : decode b_S_linksStand 81 = .ok (.iconst 1, 1) := by decide +kernel
theorem d_S_linksStand_82 : decode b_S_linksStand 82 = .ok (.ireturn, 1) := by decide +kernel
theorem d_S_isBlank_0 : decode b_S_isBlank 0 = .ok (.aload_n 0, 1) := by decide +kernel
theorem d_S_isBlank_1 : decode b_S_isBlank 1 = .ok (.getfield 15, 3) := by decide +kernel
theorem d_S_isBlank_4 : decode b_S_isBlank 4 = .ok (.iload_n 1, 1) := by decide +kernel
theorem d_S_isBlank_5 : decode b_S_isBlank 5 = .ok (.invokevirtual 178, 3) := by decide +kernel
theorem d_S_isBlank_8 : decode b_S_isBlank 8 = .ok (.lstore_n 2, 1) := by decide +kernel
theorem d_S_isBlank_9 : decode b_S_isBlank 9 = .ok (.iconst 0, 1) := by decide +kernel
theorem d_S_isBlank_10 : decode b_S_isBlank 10 = .ok (.istore 4, 2) := by decide +kernel
theorem d_S_isBlank_12 : decode b_S_isBlank 12 = .ok (.iload 4, 2) := by decide +kernel
theorem d_S_isBlank_14 : decode b_S_isBlank 14 = .ok (.sipush 128, 3) := by decide +kernel
theorem d_S_isBlank_17 : decode b_S_isBlank 17 = .ok (.if_icmp .ge 30, 3) := by decide +kernel
theorem d_S_isBlank_20 : decode b_S_isBlank 20 = .ok (.aload_n 0, 1) := by decide +kernel
theorem d_S_isBlank_21 : decode b_S_isBlank 21 = .ok (.getfield 9, 3) := by decide +kernel
theorem d_S_isBlank_24 : decode b_S_isBlank 24 = .ok (.lload_n 2, 1) := by decide +kernel
theorem d_S_isBlank_25 : decode b_S_isBlank 25 = .ok (.iload 4, 2) := by decide +kernel
theorem d_S_isBlank_27 : decode b_S_isBlank 27 = .ok (.i2l, 1) := by decide +kernel
theorem d_S_isBlank_28 : decode b_S_isBlank 28 = .ok (.ladd, 1) := by decide +kernel
theorem d_S_isBlank_29 : decode b_S_isBlank 29 = .ok (.bipush 8, 2) := by decide +kernel
theorem d_S_isBlank_31 : decode b_S_isBlank 31 = .ok (.invokevirtual 88, 3) := by decide +kernel
theorem d_S_isBlank_34 : decode b_S_isBlank 34 = .ok (.lconst 0, 1) := by decide +kernel
theorem d_S_isBlank_35 : decode b_S_isBlank 35 = .ok (.lcmp, 1) := by decide +kernel
theorem d_S_isBlank_36 : decode b_S_isBlank 36 = .ok (.ifCond .eq 5, 3) := by decide +kernel
theorem d_S_isBlank_39 : decode b_S_isBlank 39 = .ok (.iconst 0, 1) := by decide +kernel
theorem d_S_isBlank_40 : decode b_S_isBlank 40 = .ok (.ireturn, 1) := by decide +kernel
theorem d_S_isBlank_41 : decode b_S_isBlank 41 = .ok (.iinc 4 8, 3) := by decide +kernel
theorem d_S_isBlank_44 : decode b_S_isBlank 44 = .ok (.goto (-32), 3) := by decide +kernel
theorem d_S_isBlank_47 : decode b_S_isBlank 47 = .ok (.iconst 1, 1) := by decide +kernel
theorem d_S_isBlank_48 : decode b_S_isBlank 48 = .ok (.ireturn, 1) := by decide +kernel
theorem d_S_inodesStand_0 : decode b_S_inodesStand 0 = .ok (.iconst 1, 1) := by decide +kernel
theorem d_S_inodesStand_1 : decode b_S_inodesStand 1 = .ok (.istore_n 1, 1) := by decide +kernel
theorem d_S_inodesStand_2 : decode b_S_inodesStand 2 = .ok (.iload_n 1, 1) := by decide +kernel
theorem d_S_inodesStand_3 : decode b_S_inodesStand 3 = .ok (.aload_n 0, 1) := by decide +kernel
theorem d_S_inodesStand_4 : decode b_S_inodesStand 4 = .ok (.getfield 15, 3) := by decide +kernel
theorem d_S_inodesStand_7 : decode b_S_inodesStand 7 = .ok (.invokevirtual 65, 3) := by decide +kernel
theorem d_S_inodesStand_10 : decode b_S_inodesStand 10 = .ok (.if_icmp .gt 57, 3) := by decide +kernel
theorem d_S_inodesStand_13 : decode b_S_inodesStand 13 = .ok (.aload_n 0, 1) := by decide +kernel
theorem d_S_inodesStand_14 : decode b_S_inodesStand 14 = .ok (.iload_n 1, 1) := by decide +kernel
theorem d_S_inodesStand_15 : decode b_S_inodesStand 15 = .ok (.invokevirtual 236, 3) := by decide +kernel
theorem d_S_inodesStand_18 : decode b_S_inodesStand 18 = .ok (.istore_n 2, 1) := by decide +kernel
theorem d_S_inodesStand_19 : decode b_S_inodesStand 19 = .ok (.aload_n 0, 1) := by decide +kernel
theorem d_S_inodesStand_20 : decode b_S_inodesStand 20 = .ok (.getfield 15, 3) := by decide +kernel
theorem d_S_inodesStand_23 : decode b_S_inodesStand 23 = .ok (.iload_n 1, 1) := by decide +kernel
theorem d_S_inodesStand_24 : decode b_S_inodesStand 24 = .ok (.invokevirtual 137, 3) := by decide +kernel
theorem d_S_inodesStand_27 : decode b_S_inodesStand 27 = .ok (.iload_n 2, 1) := by decide +kernel
theorem d_S_inodesStand_28 : decode b_S_inodesStand 28 = .ok (.ifCond .ne 9, 3) := by decide +kernel
theorem d_S_inodesStand_31 : decode b_S_inodesStand 31 = .ok (.iload_n 1, 1) := by decide +kernel
theorem d_S_inodesStand_32 : decode b_S_inodesStand 32 = .ok (.bipush 11, 2) := by decide +kernel
theorem d_S_inodesStand_34 : decode b_S_inodesStand 34 = .ok (.if_icmp .gt 7, 3) := by decide +kernel
theorem d_S_inodesStand_37 : decode b_S_inodesStand 37 = .ok (.iconst 1, 1) := by decide +kernel
theorem d_S_inodesStand_38 : decode b_S_inodesStand 38 = .ok (.goto 4, 3) := by decide +kernel
theorem d_S_inodesStand_41 : decode b_S_inodesStand 41 = .ok (.iconst 0, 1) := by decide +kernel
theorem d_S_inodesStand_42 : decode b_S_inodesStand 42 = .ok (.if_icmp .eq 5, 3) := by decide +kernel
theorem d_S_inodesStand_45 : decode b_S_inodesStand 45 = .ok (.iconst 0, 1) := by decide +kernel
theorem d_S_inodesStand_46 : decode b_S_inodesStand 46 = .ok (.ireturn, 1) := by decide +kernel
theorem d_S_inodesStand_47 : decode b_S_inodesStand 47 = .ok (.iload_n 2, 1) := by decide +kernel
theorem d_S_inodesStand_48 : decode b_S_inodesStand 48 = .ok (.ifCond .ne 13, 3) := by decide +kernel
theorem d_S_inodesStand_51 : decode b_S_inodesStand 51 = .ok (.aload_n 0, 1) := by decide +kernel
theorem d_S_inodesStand_52 : decode b_S_inodesStand 52 = .ok (.iload_n 1, 1) := by decide +kernel
theorem d_S_inodesStand_53 : decode b_S_inodesStand 53 = .ok (.invokevirtual 248, 3) := by decide +kernel
theorem d_S_inodesStand_56 : decode b_S_inodesStand 56 = .ok (.ifCond .ne 5, 3) := by decide +kernel
theorem d_S_inodesStand_59 : decode b_S_inodesStand 59 = .ok (.iconst 0, 1) := by decide +kernel
theorem d_S_inodesStand_60 : decode b_S_inodesStand 60 = .ok (.ireturn, 1) := by decide +kernel
theorem d_S_inodesStand_61 : decode b_S_inodesStand 61 = .ok (.iinc 1 1, 3) := by decide +kernel
theorem d_S_inodesStand_64 : decode b_S_inodesStand 64 = .ok (.goto (-62), 3) := by decide +kernel
theorem d_S_inodesStand_67 : decode b_S_inodesStand 67 = .ok (.iconst 1, 1) := by decide +kernel
theorem d_S_inodesStand_68 : decode b_S_inodesStand 68 = .ok (.ireturn, 1) := by decide +kernel
theorem d_S_isTaken_0 : decode b_S_isTaken 0 = .ok (.iload_n 1, 1) := by decide +kernel
theorem d_S_isTaken_1 : decode b_S_isTaken 1 = .ok (.ifCond .lt 25, 3) := by decide +kernel
theorem d_S_isTaken_4 : decode b_S_isTaken 4 = .ok (.iload_n 1, 1) := by decide +kernel
theorem d_S_isTaken_5 : decode b_S_isTaken 5 = .ok (.aload_n 0, 1) := by decide +kernel
theorem d_S_isTaken_6 : decode b_S_isTaken 6 = .ok (.getfield 23, 3) := by decide +kernel
theorem d_S_isTaken_9 : decode b_S_isTaken 9 = .ok (.arraylength, 1) := by decide +kernel
theorem d_S_isTaken_10 : decode b_S_isTaken 10 = .ok (.if_icmp .ge 16, 3) := by decide +kernel
theorem d_S_isTaken_13 : decode b_S_isTaken 13 = .ok (.aload_n 0, 1) := by decide +kernel
theorem d_S_isTaken_14 : decode b_S_isTaken 14 = .ok (.getfield 23, 3) := by decide +kernel
theorem d_S_isTaken_17 : decode b_S_isTaken 17 = .ok (.iload_n 1, 1) := by decide +kernel
theorem d_S_isTaken_18 : decode b_S_isTaken 18 = .ok (.iaload, 1) := by decide +kernel
theorem d_S_isTaken_19 : decode b_S_isTaken 19 = .ok (.ifCond .eq 7, 3) := by decide +kernel
theorem d_S_isTaken_22 : decode b_S_isTaken 22 = .ok (.iconst 1, 1) := by decide +kernel
theorem d_S_isTaken_23 : decode b_S_isTaken 23 = .ok (.goto 4, 3) := by decide +kernel
theorem d_S_isTaken_26 : decode b_S_isTaken 26 = .ok (.iconst 0, 1) := by decide +kernel
theorem d_S_isTaken_27 : decode b_S_isTaken 27 = .ok (.ireturn, 1) := by decide +kernel
theorem d_S_blockMapStands_0 : decode b_S_blockMapStands 0 = .ok (.aload_n 0, 1) := by decide +kernel
theorem d_S_blockMapStands_1 : decode b_S_blockMapStands 1 = .ok (.getfield 15, 3) := by decide +kernel
theorem d_S_blockMapStands_4 : decode b_S_blockMapStands 4 = .ok (.iload_n 1, 1) := by decide +kernel
theorem d_S_blockMapStands_5 : decode b_S_blockMapStands 5 = .ok (.invokevirtual 95, 3) := by decide +kernel
theorem d_S_blockMapStands_8 : decode b_S_blockMapStands 8 = .ok (.istore_n 2, 1) := by decide +kernel
theorem d_S_blockMapStands_9 : decode b_S_blockMapStands 9 = .ok (.iconst 0, 1) := by decide +kernel
theorem d_S_blockMapStands_10 : decode b_S_blockMapStands 10 = .ok (.istore_n 3, 1) := by decide +kernel
theorem d_S_blockMapStands_11 : decode b_S_blockMapStands 11 = .ok (.iload_n 3, 1) := by decide +kernel
theorem d_S_blockMapStands_12 : decode b_S_blockMapStands 12 = .ok (.iload_n 2, 1) := by decide +kernel
theorem d_S_blockMapStands_13 : decode b_S_blockMapStands 13 = .ok (.if_icmp .ge 44, 3) := by decide +kernel
theorem d_S_blockMapStands_16 : decode b_S_blockMapStands 16 = .ok (.aload_n 0, 1) := by decide +kernel
theorem d_S_blockMapStands_17 : decode b_S_blockMapStands 17 = .ok (.getfield 9, 3) := by decide +kernel
theorem d_S_blockMapStands_20 : decode b_S_blockMapStands 20 = .ok (.aload_n 0, 1) := by decide +kernel
theorem d_S_blockMapStands_21 : decode b_S_blockMapStands 21 = .ok (.getfield 15, 3) := by decide +kernel
theorem d_S_blockMapStands_24 : decode b_S_blockMapStands 24 = .ok (.iload_n 1, 1) := by decide +kernel
theorem d_S_blockMapStands_25 : decode b_S_blockMapStands 25 = .ok (.invokevirtual 270, 3) := by decide +kernel
theorem d_S_blockMapStands_28 : decode b_S_blockMapStands 28 = .ok (.iload_n 3, 1) := by decide +kernel
theorem d_S_blockMapStands_29 : decode b_S_blockMapStands 29 = .ok (.invokevirtual 273, 3) := by decide +kernel
theorem d_S_blockMapStands_32 : decode b_S_blockMapStands 32 = .ok (.aload_n 0, 1) := by decide +kernel
theorem d_S_blockMapStands_33 : decode b_S_blockMapStands 33 = .ok (.aload_n 0, 1) := by decide +kernel
theorem d_S_blockMapStands_34 : decode b_S_blockMapStands 34 = .ok (.getfield 15, 3) := by decide +kernel
theorem d_S_blockMapStands_37 : decode b_S_blockMapStands 37 = .ok (.iload_n 1, 1) := by decide +kernel
theorem d_S_blockMapStands_38 : decode b_S_blockMapStands 38 = .ok (.invokevirtual 105, 3) := by decide +kernel
theorem d_S_blockMapStands_41 : decode b_S_blockMapStands 41 = .ok (.iload_n 3, 1) := by decide +kernel
theorem d_S_blockMapStands_42 : decode b_S_blockMapStands 42 = .ok (.iadd, 1) := by decide +kernel
theorem d_S_blockMapStands_43 : decode b_S_blockMapStands 43 = .ok (.invokevirtual 276, 3) := by decide +kernel
theorem d_S_blockMapStands_46 : decode b_S_blockMapStands 46 = .ok (.if_icmp .eq 5, 3) := by decide +kernel
theorem d_S_blockMapStands_49 : decode b_S_blockMapStands 49 = .ok (.iconst 0, 1) := by decide +kernel
theorem d_S_blockMapStands_50 : decode b_S_blockMapStands 50 = .ok (.ireturn, 1) := by decide +kernel
theorem d_S_blockMapStands_51 : decode b_S_blockMapStands 51 = .ok (.iinc 3 1, 3) := by decide +kernel
theorem d_S_blockMapStands_54 : decode b_S_blockMapStands 54 = .ok (.goto (-43), 3) := by decide +kernel
theorem d_S_blockMapStands_57 : decode b_S_blockMapStands 57 = .ok (.aload_n 0, 1) := by decide +kernel
theorem d_S_blockMapStands_58 : decode b_S_blockMapStands 58 = .ok (.getfield 9, 3) := by decide +kernel
theorem d_S_blockMapStands_61 : decode b_S_blockMapStands 61 = .ok (.aload_n 0, 1) := by decide +kernel
theorem d_S_blockMapStands_62 : decode b_S_blockMapStands 62 = .ok (.getfield 15, 3) := by decide +kernel
theorem d_S_blockMapStands_65 : decode b_S_blockMapStands 65 = .ok (.iload_n 1, 1) := by decide +kernel
theorem d_S_blockMapStands_66 : decode b_S_blockMapStands 66 = .ok (.invokevirtual 270, 3) := by decide +kernel
theorem d_S_blockMapStands_69 : decode b_S_blockMapStands 69 = .ok (.iload_n 2, 1) := by decide +kernel
theorem d_S_blockMapStands_70 : decode b_S_blockMapStands 70 = .ok (.invokevirtual 257, 3) := by decide +kernel
theorem d_S_blockMapStands_73 : decode b_S_blockMapStands 73 = .ok (.ireturn, 1) := by decide +kernel
theorem d_S_freeBlocks_0 : decode b_S_freeBlocks 0 = .ok (.aload_n 0, 1) := by decide +kernel
theorem d_S_freeBlocks_1 : decode b_S_freeBlocks 1 = .ok (.getfield 15, 3) := by decide +kernel
theorem d_S_freeBlocks_4 : decode b_S_freeBlocks 4 = .ok (.iload_n 1, 1) := by decide +kernel
theorem d_S_freeBlocks_5 : decode b_S_freeBlocks 5 = .ok (.invokevirtual 95, 3) := by decide +kernel
theorem d_S_freeBlocks_8 : decode b_S_freeBlocks 8 = .ok (.istore_n 2, 1) := by decide +kernel
theorem d_S_freeBlocks_9 : decode b_S_freeBlocks 9 = .ok (.iconst 0, 1) := by decide +kernel
theorem d_S_freeBlocks_10 : decode b_S_freeBlocks 10 = .ok (.istore_n 3, 1) := by decide +kernel
theorem d_S_freeBlocks_11 : decode b_S_freeBlocks 11 = .ok (.iconst 0, 1) := by decide +kernel
theorem d_S_freeBlocks_12 : decode b_S_freeBlocks 12 = .ok (.istore 4, 2) := by decide +kernel
theorem d_S_freeBlocks_14 : decode b_S_freeBlocks 14 = .ok (.iload 4, 2) := by decide +kernel
theorem d_S_freeBlocks_16 : decode b_S_freeBlocks 16 = .ok (.iload_n 2, 1) := by decide +kernel
theorem d_S_freeBlocks_17 : decode b_S_freeBlocks 17 = .ok (.if_icmp .ge 30, 3) := by decide +kernel
theorem d_S_freeBlocks_20 : decode b_S_freeBlocks 20 = .ok (.aload_n 0, 1) := by decide +kernel
theorem d_S_freeBlocks_21 : decode b_S_freeBlocks 21 = .ok (.aload_n 0, 1) := by decide +kernel
theorem d_S_freeBlocks_22 : decode b_S_freeBlocks 22 = .ok (.getfield 15, 3) := by decide +kernel
theorem d_S_freeBlocks_25 : decode b_S_freeBlocks 25 = .ok (.iload_n 1, 1) := by decide +kernel
theorem d_S_freeBlocks_26 : decode b_S_freeBlocks 26 = .ok (.invokevirtual 105, 3) := by decide +kernel
theorem d_S_freeBlocks_29 : decode b_S_freeBlocks 29 = .ok (.iload 4, 2) := by decide +kernel
theorem d_S_freeBlocks_31 : decode b_S_freeBlocks 31 = .ok (.iadd, 1) := by decide +kernel
theorem d_S_freeBlocks_32 : decode b_S_freeBlocks 32 = .ok (.invokevirtual 276, 3) := by decide +kernel
theorem d_S_freeBlocks_35 : decode b_S_freeBlocks 35 = .ok (.ifCond .ne 6, 3) := by decide +kernel
theorem d_S_freeBlocks_38 : decode b_S_freeBlocks 38 = .ok (.iinc 3 1, 3) := by decide +kernel
theorem d_S_freeBlocks_41 : decode b_S_freeBlocks 41 = .ok (.iinc 4 1, 3) := by decide +kernel
theorem d_S_freeBlocks_44 : decode b_S_freeBlocks 44 = .ok (.goto (-30), 3) := by decide +kernel
theorem d_S_freeBlocks_47 : decode b_S_freeBlocks 47 = .ok (.iload_n 3, 1) := by decide +kernel
theorem d_S_freeBlocks_48 : decode b_S_freeBlocks 48 = .ok (.ireturn, 1) := by decide +kernel
theorem d_S_freeInodes_0 : decode b_S_freeInodes 0 = .ok (.iconst 0, 1) := by decide +kernel
theorem d_S_freeInodes_1 : decode b_S_freeInodes 1 = .ok (.istore_n 2, 1) := by decide +kernel
theorem d_S_freeInodes_2 : decode b_S_freeInodes 2 = .ok (.iconst 0, 1) := by decide +kernel
theorem d_S_freeInodes_3 : decode b_S_freeInodes 3 = .ok (.istore_n 3, 1) := by decide +kernel
theorem d_S_freeInodes_4 : decode b_S_freeInodes 4 = .ok (.iload_n 3, 1) := by decide +kernel
theorem d_S_freeInodes_5 : decode b_S_freeInodes 5 = .ok (.aload_n 0, 1) := by decide +kernel
theorem d_S_freeInodes_6 : decode b_S_freeInodes 6 = .ok (.getfield 15, 3) := by decide +kernel
theorem d_S_freeInodes_9 : decode b_S_freeInodes 9 = .ok (.invokevirtual 114, 3) := by decide +kernel
theorem d_S_freeInodes_12 : decode b_S_freeInodes 12 = .ok (.if_icmp .ge 31, 3) := by decide +kernel
theorem d_S_freeInodes_15 : decode b_S_freeInodes 15 = .ok (.aload_n 0, 1) := by decide +kernel
theorem d_S_freeInodes_16 : decode b_S_freeInodes 16 = .ok (.getfield 9, 3) := by decide +kernel
theorem d_S_freeInodes_19 : decode b_S_freeInodes 19 = .ok (.aload_n 0, 1) := by decide +kernel
theorem d_S_freeInodes_20 : decode b_S_freeInodes 20 = .ok (.getfield 15, 3) := by decide +kernel
theorem d_S_freeInodes_23 : decode b_S_freeInodes 23 = .ok (.iload_n 1, 1) := by decide +kernel
theorem d_S_freeInodes_24 : decode b_S_freeInodes 24 = .ok (.invokevirtual 254, 3) := by decide +kernel
theorem d_S_freeInodes_27 : decode b_S_freeInodes 27 = .ok (.iload_n 3, 1) := by decide +kernel
theorem d_S_freeInodes_28 : decode b_S_freeInodes 28 = .ok (.invokevirtual 273, 3) := by decide +kernel
theorem d_S_freeInodes_31 : decode b_S_freeInodes 31 = .ok (.ifCond .ne 6, 3) := by decide +kernel
theorem d_S_freeInodes_34 : decode b_S_freeInodes 34 = .ok (.iinc 2 1, 3) := by decide +kernel
theorem d_S_freeInodes_37 : decode b_S_freeInodes 37 = .ok (.iinc 3 1, 3) := by decide +kernel
theorem d_S_freeInodes_40 : decode b_S_freeInodes 40 = .ok (.goto (-36), 3) := by decide +kernel
theorem d_S_freeInodes_43 : decode b_S_freeInodes 43 = .ok (.iload_n 2, 1) := by decide +kernel
theorem d_S_freeInodes_44 : decode b_S_freeInodes 44 = .ok (.ireturn, 1) := by decide +kernel
theorem d_S_directories_0 : decode b_S_directories 0 = .ok (.iconst 0, 1) := by decide +kernel
theorem d_S_directories_1 : decode b_S_directories 1 = .ok (.istore_n 2, 1) := by decide +kernel
theorem d_S_directories_2 : decode b_S_directories 2 = .ok (.iconst 0, 1) := by decide +kernel
theorem d_S_directories_3 : decode b_S_directories 3 = .ok (.istore_n 3, 1) := by decide +kernel
theorem d_S_directories_4 : decode b_S_directories 4 = .ok (.iload_n 3, 1) := by decide +kernel
theorem d_S_directories_5 : decode b_S_directories 5 = .ok (.aload_n 0, 1) := by decide +kernel
theorem d_S_directories_6 : decode b_S_directories 6 = .ok (.getfield 134, 3) := by decide +kernel
theorem d_S_directories_9 : decode b_S_directories 9 = .ok (.if_icmp .ge 57, 3) := by decide +kernel
theorem d_S_directories_12 : decode b_S_directories 12 = .ok (.iload_n 3, 1) := by decide +kernel
theorem d_S_directories_13 : decode b_S_directories 13 = .ok (.aload_n 0, 1) := by decide +kernel
theorem d_S_directories_14 : decode b_S_directories 14 = .ok (.getfield 30, 3) := by decide +kernel
theorem d_S_directories_17 : decode b_S_directories 17 = .ok (.arraylength, 1) := by decide +kernel
theorem d_S_directories_18 : decode b_S_directories 18 = .ok (.if_icmp .ge 48, 3) := by decide +kernel
theorem d_S_directories_21 : decode b_S_directories 21 = .ok (.aload_n 0, 1) := by decide +kernel
theorem d_S_directories_22 : decode b_S_directories 22 = .ok (.getfield 15, 3) := by decide +kernel
theorem d_S_directories_25 : decode b_S_directories 25 = .ok (.aload_n 0, 1) := by decide +kernel
theorem d_S_directories_26 : decode b_S_directories 26 = .ok (.getfield 30, 3) := by decide +kernel
theorem d_S_directories_29 : decode b_S_directories 29 = .ok (.iload_n 3, 1) := by decide +kernel
theorem d_S_directories_30 : decode b_S_directories 30 = .ok (.iaload, 1) := by decide +kernel
theorem d_S_directories_31 : decode b_S_directories 31 = .ok (.invokevirtual 279, 3) := by decide +kernel
theorem d_S_directories_34 : decode b_S_directories 34 = .ok (.iload_n 1, 1) := by decide +kernel
theorem d_S_directories_35 : decode b_S_directories 35 = .ok (.if_icmp .ne 25, 3) := by decide +kernel
theorem d_S_directories_38 : decode b_S_directories 38 = .ok (.aload_n 0, 1) := by decide +kernel
theorem d_S_directories_39 : decode b_S_directories 39 = .ok (.getfield 15, 3) := by decide +kernel
theorem d_S_directories_42 : decode b_S_directories 42 = .ok (.aload_n 0, 1) := by decide +kernel
theorem d_S_directories_43 : decode b_S_directories 43 = .ok (.getfield 30, 3) := by decide +kernel
theorem d_S_directories_46 : decode b_S_directories 46 = .ok (.iload_n 3, 1) := by decide +kernel
theorem d_S_directories_47 : decode b_S_directories 47 = .ok (.iaload, 1) := by decide +kernel
theorem d_S_directories_48 : decode b_S_directories 48 = .ok (.invokevirtual 140, 3) := by decide +kernel
theorem d_S_directories_51 : decode b_S_directories 51 = .ok (.sipush 16384, 3) := by decide +kernel
theorem d_S_directories_54 : decode b_S_directories 54 = .ok (.if_icmp .ne 6, 3) := by decide +kernel
theorem d_S_directories_57 : decode b_S_directories 57 = .ok (.iinc 2 1, 3) := by decide +kernel
theorem d_S_directories_60 : decode b_S_directories 60 = .ok (.iinc 3 1, 3) := by decide +kernel
theorem d_S_directories_63 : decode b_S_directories 63 = .ok (.goto (-59), 3) := by decide +kernel
theorem d_S_directories_66 : decode b_S_directories 66 = .ok (.iload_n 2, 1) := by decide +kernel
theorem d_S_directories_67 : decode b_S_directories 67 = .ok (.ireturn, 1) := by decide +kernel
theorem d_S_mapsStand_0 : decode b_S_mapsStand 0 = .ok (.iconst 0, 1) := by decide +kernel
theorem d_S_mapsStand_1 : decode b_S_mapsStand 1 = .ok (.istore_n 1, 1) := by decide +kernel
theorem d_S_mapsStand_2 : decode b_S_mapsStand 2 = .ok (.iconst 0, 1) := by decide +kernel
theorem d_S_mapsStand_3 : decode b_S_mapsStand 3 = .ok (.istore_n 2, 1) := by decide +kernel
theorem d_S_mapsStand_4 : decode b_S_mapsStand 4 = .ok (.iconst 0, 1) := by decide +kernel
theorem d_S_mapsStand_5 : decode b_S_mapsStand 5 = .ok (.istore_n 3, 1) := by decide +kernel
theorem d_S_mapsStand_6 : decode b_S_mapsStand 6 = .ok (.iload_n 3, 1) := by decide +kernel
theorem d_S_mapsStand_7 : decode b_S_mapsStand 7 = .ok (.aload_n 0, 1) := by decide +kernel
theorem d_S_mapsStand_8 : decode b_S_mapsStand 8 = .ok (.getfield 15, 3) := by decide +kernel
theorem d_S_mapsStand_11 : decode b_S_mapsStand 11 = .ok (.invokevirtual 92, 3) := by decide +kernel
theorem d_S_mapsStand_14 : decode b_S_mapsStand 14 = .ok (.if_icmp .ge 127, 3) := by decide +kernel
theorem d_S_mapsStand_17 : decode b_S_mapsStand 17 = .ok (.aload_n 0, 1) := by decide +kernel
theorem d_S_mapsStand_18 : decode b_S_mapsStand 18 = .ok (.iload_n 3, 1) := by decide +kernel
theorem d_S_mapsStand_19 : decode b_S_mapsStand 19 = .ok (.invokevirtual 251, 3) := by decide +kernel
theorem d_S_mapsStand_22 : decode b_S_mapsStand 22 = .ok (.ifCond .eq 28, 3) := by decide +kernel
theorem d_S_mapsStand_25 : decode b_S_mapsStand 25 = .ok (.aload_n 0, 1) := by decide +kernel
theorem d_S_mapsStand_26 : decode b_S_mapsStand 26 = .ok (.getfield 9, 3) := by decide +kernel
theorem d_S_mapsStand_29 : decode b_S_mapsStand 29 = .ok (.aload_n 0, 1) := by decide +kernel
theorem d_S_mapsStand_30 : decode b_S_mapsStand 30 = .ok (.getfield 15, 3) := by decide +kernel
theorem d_S_mapsStand_33 : decode b_S_mapsStand 33 = .ok (.iload_n 3, 1) := by decide +kernel
theorem d_S_mapsStand_34 : decode b_S_mapsStand 34 = .ok (.invokevirtual 254, 3) := by decide +kernel
theorem d_S_mapsStand_37 : decode b_S_mapsStand 37 = .ok (.aload_n 0, 1) := by decide +kernel
theorem d_S_mapsStand_38 : decode b_S_mapsStand 38 = .ok (.getfield 15, 3) := by decide +kernel
theorem d_S_mapsStand_41 : decode b_S_mapsStand 41 = .ok (.invokevirtual 114, 3) := by decide +kernel
theorem d_S_mapsStand_44 : decode b_S_mapsStand 44 = .ok (.invokevirtual 257, 3) := by decide +kernel
theorem d_S_mapsStand_47 : decode b_S_mapsStand 47 = .ok (.ifCond .ne 5, 3) := by decide +kernel
theorem d_S_mapsStand_50 : decode b_S_mapsStand 50 = .ok (.iconst 0, 1) := by decide +kernel
theorem d_S_mapsStand_51 : decode b_S_mapsStand 51 = .ok (.ireturn, 1) := by decide +kernel
theorem d_S_mapsStand_52 : decode b_S_mapsStand 52 = .ok (.aload_n 0, 1) := by decide +kernel
theorem d_S_mapsStand_53 : decode b_S_mapsStand 53 = .ok (.iload_n 3, 1) := by decide +kernel
theorem d_S_mapsStand_54 : decode b_S_mapsStand 54 = .ok (.invokevirtual 261, 3) := by decide +kernel
theorem d_S_mapsStand_57 : decode b_S_mapsStand 57 = .ok (.istore 4, 2) := by decide +kernel
theorem d_S_mapsStand_59 : decode b_S_mapsStand 59 = .ok (.aload_n 0, 1) := by decide +kernel
theorem d_S_mapsStand_60 : decode b_S_mapsStand 60 = .ok (.iload_n 3, 1) := by decide +kernel
theorem d_S_mapsStand_61 : decode b_S_mapsStand 61 = .ok (.invokevirtual 264, 3) := by decide +kernel
theorem d_S_mapsStand_64 : decode b_S_mapsStand 64 = .ok (.istore 5, 2) := by decide +kernel
theorem d_S_mapsStand_66 : decode b_S_mapsStand 66 = .ok (.aload_n 0, 1) := by decide +kernel
theorem d_S_mapsStand_67 : decode b_S_mapsStand 67 = .ok (.getfield 15, 3) := by decide +kernel
theorem d_S_mapsStand_70 : decode b_S_mapsStand 70 = .ok (.iload_n 3, 1) := by decide +kernel
theorem d_S_mapsStand_71 : decode b_S_mapsStand 71 = .ok (.bipush 12, 2) := by decide +kernel
theorem d_S_mapsStand_73 : decode b_S_mapsStand 73 = .ok (.iconst 2, 1) := by decide +kernel
theorem d_S_mapsStand_74 : decode b_S_mapsStand 74 = .ok (.invokevirtual 117, 3) := by decide +kernel
theorem d_S_mapsStand_77 : decode b_S_mapsStand 77 = .ok (.iload 4, 2) := by decide +kernel
theorem d_S_mapsStand_79 : decode b_S_mapsStand 79 = .ok (.i2l, 1) := by decide +kernel
theorem d_S_mapsStand_80 : decode b_S_mapsStand 80 = .ok (.lcmp, 1) := by decide +kernel
theorem d_S_mapsStand_81 : decode b_S_mapsStand 81 = .ok (.ifCond .ne 42, 3) := by decide +kernel
theorem d_S_mapsStand_84 : decode b_S_mapsStand 84 = .ok (.aload_n 0, 1) := by decide +kernel
theorem d_S_mapsStand_85 : decode b_S_mapsStand 85 = .ok (.getfield 15, 3) := by decide +kernel
theorem d_S_mapsStand_88 : decode b_S_mapsStand 88 = .ok (.iload_n 3, 1) := by decide +kernel
theorem d_S_mapsStand_89 : decode b_S_mapsStand 89 = .ok (.bipush 14, 2) := by decide +kernel
theorem d_S_mapsStand_91 : decode b_S_mapsStand 91 = .ok (.iconst 2, 1) := by decide +kernel
theorem d_S_mapsStand_92 : decode b_S_mapsStand 92 = .ok (.invokevirtual 117, 3) := by decide +kernel
theorem d_S_mapsStand_95 : decode b_S_mapsStand 95 = .ok (.iload 5, 2) := by decide +kernel
theorem d_S_mapsStand_97 : decode b_S_mapsStand 97 = .ok (.i2l, 1) := by decide +kernel
theorem d_S_mapsStand_98 : decode b_S_mapsStand 98 = .ok (.lcmp, 1) := by decide +kernel
theorem d_S_mapsStand_99 : decode b_S_mapsStand 99 = .ok (.ifCond .ne 24, 3) := by decide +kernel
theorem d_S_mapsStand_102 : decode b_S_mapsStand 102 = .ok (.aload_n 0, 1) := by decide +kernel
theorem d_S_mapsStand_103 : decode b_S_mapsStand 103 = .ok (.getfield 15, 3) := by decide +kernel
theorem d_S_mapsStand_106 : decode b_S_mapsStand 106 = .ok (.iload_n 3, 1) := by decide +kernel
theorem d_S_mapsStand_107 : decode b_S_mapsStand 107 = .ok (.bipush 16, 2) := by decide +kernel
theorem d_S_mapsStand_109 : decode b_S_mapsStand 109 = .ok (.iconst 2, 1) := by decide +kernel
theorem d_S_mapsStand_110 : decode b_S_mapsStand 110 = .ok (.invokevirtual 117, 3) := by decide +kernel
theorem d_S_mapsStand_113 : decode b_S_mapsStand 113 = .ok (.aload_n 0, 1) := by decide +kernel
theorem d_S_mapsStand_114 : decode b_S_mapsStand 114 = .ok (.iload_n 3, 1) := by decide +kernel
theorem d_S_mapsStand_115 : decode b_S_mapsStand 115 = .ok (.invokevirtual 267, 3) := by decide +kernel
theorem d_S_mapsStand_118 : decode b_S_mapsStand 118 = .ok (.i2l, 1) := by decide +kernel
theorem d_S_mapsStand_119 : decode b_S_mapsStand 119 = .ok (.lcmp, 1) := by decide +kernel
theorem d_S_mapsStand_120 : decode b_S_mapsStand 120 = .ok (.ifCond .eq 5, 3) := by decide +kernel
theorem d_S_mapsStand_123 : decode b_S_mapsStand 123 = .ok (.iconst 0, 1) := by decide +kernel
theorem d_S_mapsStand_124 : decode b_S_mapsStand 124 = .ok (.ireturn, 1) := by decide +kernel
theorem d_S_mapsStand_125 : decode b_S_mapsStand 125 = .ok (.iload_n 1, 1) := by decide +kernel
theorem d_S_mapsStand_126 : decode b_S_mapsStand 126 = .ok (.iload 4, 2) := by decide +kernel
theorem d_S_mapsStand_128 : decode b_S_mapsStand 128 = .ok (.iadd, 1) := by decide +kernel
theorem d_S_mapsStand_129 : decode b_S_mapsStand 129 = .ok (.istore_n 1, 1) := by decide +kernel
theorem d_S_mapsStand_130 : decode b_S_mapsStand 130 = .ok (.iload_n 2, 1) := by decide +kernel
theorem d_S_mapsStand_131 : decode b_S_mapsStand 131 = .ok (.iload 5, 2) := by decide +kernel
theorem d_S_mapsStand_133 : decode b_S_mapsStand 133 = .ok (.iadd, 1) := by decide +kernel
theorem d_S_mapsStand_134 : decode b_S_mapsStand 134 = .ok (.istore_n 2, 1) := by decide +kernel
theorem d_S_mapsStand_135 : decode b_S_mapsStand 135 = .ok (.iinc 3 1, 3) := by decide +kernel
theorem d_S_mapsStand_138 : decode b_S_mapsStand 138 = .ok (.goto (-132), 3) := by decide +kernel
theorem d_S_mapsStand_141 : decode b_S_mapsStand 141 = .ok (.aload_n 0, 1) := by decide +kernel
theorem d_S_mapsStand_142 : decode b_S_mapsStand 142 = .ok (.bipush 12, 2) := by decide +kernel
theorem d_S_mapsStand_144 : decode b_S_mapsStand 144 = .ok (.iconst 4, 1) := by decide +kernel
theorem d_S_mapsStand_145 : decode b_S_mapsStand 145 = .ok (.iload_n 1, 1) := by decide +kernel
theorem d_S_mapsStand_146 : decode b_S_mapsStand 146 = .ok (.i2l, 1) := by decide +kernel
theorem d_S_mapsStand_147 : decode b_S_mapsStand 147 = .ok (.invokevirtual 68, 3) := by decide +kernel
theorem d_S_mapsStand_150 : decode b_S_mapsStand 150 = .ok (.ifCond .eq 19, 3) := by decide +kernel
theorem d_S_mapsStand_153 : decode b_S_mapsStand 153 = .ok (.aload_n 0, 1) := by decide +kernel
theorem d_S_mapsStand_154 : decode b_S_mapsStand 154 = .ok (.bipush 16, 2) := by decide +kernel
theorem d_S_mapsStand_156 : decode b_S_mapsStand 156 = .ok (.iconst 4, 1) := by decide +kernel
theorem d_S_mapsStand_157 : decode b_S_mapsStand 157 = .ok (.iload_n 2, 1) := by decide +kernel
theorem d_S_mapsStand_158 : decode b_S_mapsStand 158 = .ok (.i2l, 1) := by decide +kernel
theorem d_S_mapsStand_159 : decode b_S_mapsStand 159 = .ok (.invokevirtual 68, 3) := by decide +kernel
theorem d_S_mapsStand_162 : decode b_S_mapsStand 162 = .ok (.ifCond .eq 7, 3) := by decide +kernel
theorem d_S_mapsStand_165 : decode b_S_mapsStand 165 = .ok (.iconst 1, 1) := by decide +kernel
theorem d_S_mapsStand_166 : decode b_S_mapsStand 166 = .ok (.goto 4, 3) := by decide +kernel
theorem d_S_mapsStand_169 : decode b_S_mapsStand 169 = .ok (.iconst 0, 1) := by decide +kernel
theorem d_S_mapsStand_170 : decode b_S_mapsStand 170 = .ok (.ireturn, 1) := by decide +kernel
theorem d_S_lateFault_0 : decode b_S_lateFault 0 = .ok (.aload_n 0, 1) := by decide +kernel
theorem d_S_lateFault_1 : decode b_S_lateFault 1 = .ok (.invokevirtual 239, 3) := by decide +kernel
theorem d_S_lateFault_4 : decode b_S_lateFault 4 = .ok (.ifCond .ne 6, 3) := by decide +kernel
theorem d_S_lateFault_7 : decode b_S_lateFault 7 = .ok (.bipush 6, 2) := by decide +kernel
theorem d_S_lateFault_9 : decode b_S_lateFault 9 = .ok (.ireturn, 1) := by decide +kernel
theorem d_S_lateFault_10 : decode b_S_lateFault 10 = .ok (.aload_n 0, 1) := by decide +kernel
theorem d_S_lateFault_11 : decode b_S_lateFault 11 = .ok (.invokevirtual 242, 3) := by decide +kernel
theorem d_S_lateFault_14 : decode b_S_lateFault 14 = .ok (.ifCond .ne 6, 3) := by decide +kernel
theorem d_S_lateFault_17 : decode b_S_lateFault 17 = .ok (.bipush 7, 2) := by decide +kernel
theorem d_S_lateFault_19 : decode b_S_lateFault 19 = .ok (.ireturn, 1) := by decide +kernel
theorem d_S_lateFault_20 : decode b_S_lateFault 20 = .ok (.aload_n 0, 1) := by decide +kernel
theorem d_S_lateFault_21 : decode b_S_lateFault 21 = .ok (.invokevirtual 245, 3) := by decide +kernel
theorem d_S_lateFault_24 : decode b_S_lateFault 24 = .ok (.ifCond .eq 7, 3) := by decide +kernel
theorem d_S_lateFault_27 : decode b_S_lateFault 27 = .ok (.iconst 0, 1) := by decide +kernel
theorem d_S_lateFault_28 : decode b_S_lateFault 28 = .ok (.goto 5, 3) := by decide +kernel
theorem d_S_lateFault_31 : decode b_S_lateFault 31 = .ok (.bipush 8, 2) := by decide +kernel
theorem d_S_lateFault_33 : decode b_S_lateFault 33 = .ok (.ireturn, 1) := by decide +kernel
theorem d_S_firstFault_0 : decode b_S_firstFault 0 = .ok (.aload_n 0, 1) := by decide +kernel
theorem d_S_firstFault_1 : decode b_S_firstFault 1 = .ok (.getfield 39, 3) := by decide +kernel
theorem d_S_firstFault_4 : decode b_S_firstFault 4 = .ok (.iconst (-1), 1) := by decide +kernel
theorem d_S_firstFault_5 : decode b_S_firstFault 5 = .ok (.if_icmp .eq 8, 3) := by decide +kernel
theorem d_S_firstFault_8 : decode b_S_firstFault 8 = .ok (.aload_n 0, 1) := by decide +kernel
theorem d_S_firstFault_9 : decode b_S_firstFault 9 = .ok (.getfield 39, 3) := by decide +kernel
theorem d_S_firstFault_12 : decode b_S_firstFault 12 = .ok (.ireturn, 1) := by decide +kernel
theorem d_S_firstFault_13 : decode b_S_firstFault 13 = .ok (.aload_n 0, 1) := by decide +kernel
theorem d_S_firstFault_14 : decode b_S_firstFault 14 = .ok (.invokevirtual 43, 3) := by decide +kernel
theorem d_S_firstFault_17 : decode b_S_firstFault 17 = .ok (.ifCond .ne 11, 3) := by decide +kernel
theorem d_S_firstFault_20 : decode b_S_firstFault 20 = .ok (.aload_n 0, 1) := by decide +kernel
theorem d_S_firstFault_21 : decode b_S_firstFault 21 = .ok (.iconst 1, 1) := by decide +kernel
theorem d_S_firstFault_22 : decode b_S_firstFault 22 = .ok (.putfield 39, 3) := by decide +kernel
theorem d_S_firstFault_25 : decode b_S_firstFault 25 = .ok (.goto 41, 3) := by decide +kernel
theorem d_S_firstFault_28 : decode b_S_firstFault 28 = .ok (.aload_n 0, 1) := by decide +kernel
theorem d_S_firstFault_29 : decode b_S_firstFault 29 = .ok (.invokevirtual 47, 3) := by decide +kernel
theorem d_S_firstFault_32 : decode b_S_firstFault 32 = .ok (.ifCond .ne 11, 3) := by decide +kernel
theorem d_S_firstFault_35 : decode b_S_firstFault 35 = .ok (.aload_n 0, 1) := by decide +kernel
theorem d_S_firstFault_36 : decode b_S_firstFault 36 = .ok (.iconst 2, 1) := by decide +kernel
theorem d_S_firstFault_37 : decode b_S_firstFault 37 = .ok (.putfield 39, 3) := by decide +kernel
theorem d_S_firstFault_40 : decode b_S_firstFault 40 = .ok (.goto 26, 3) := by decide +kernel
theorem d_S_firstFault_43 : decode b_S_firstFault 43 = .ok (.aload_n 0, 1) := by decide +kernel
theorem d_S_firstFault_44 : decode b_S_firstFault 44 = .ok (.invokevirtual 50, 3) := by decide +kernel
theorem d_S_firstFault_47 : decode b_S_firstFault 47 = .ok (.ifCond .ne 11, 3) := by decide +kernel
theorem d_S_firstFault_50 : decode b_S_firstFault 50 = .ok (.aload_n 0, 1) := by decide +kernel
theorem d_S_firstFault_51 : decode b_S_firstFault 51 = .ok (.iconst 3, 1) := by decide +kernel
theorem d_S_firstFault_52 : decode b_S_firstFault 52 = .ok (.putfield 39, 3) := by decide +kernel
theorem d_S_firstFault_55 : decode b_S_firstFault 55 = .ok (.goto 11, 3) := by decide +kernel
theorem d_S_firstFault_58 : decode b_S_firstFault 58 = .ok (.aload_n 0, 1) := by decide +kernel
theorem d_S_firstFault_59 : decode b_S_firstFault 59 = .ok (.aload_n 0, 1) := by decide +kernel
theorem d_S_firstFault_60 : decode b_S_firstFault 60 = .ok (.invokevirtual 53, 3) := by decide +kernel
theorem d_S_firstFault_63 : decode b_S_firstFault 63 = .ok (.putfield 39, 3) := by decide +kernel
theorem d_S_firstFault_66 : decode b_S_firstFault 66 = .ok (.aload_n 0, 1) := by decide +kernel
theorem d_S_firstFault_67 : decode b_S_firstFault 67 = .ok (.getfield 39, 3) := by decide +kernel
theorem d_S_firstFault_70 : decode b_S_firstFault 70 = .ok (.ifCond .ne 11, 3) := by decide +kernel
theorem d_S_firstFault_73 : decode b_S_firstFault 73 = .ok (.aload_n 0, 1) := by decide +kernel
theorem d_S_firstFault_74 : decode b_S_firstFault 74 = .ok (.aload_n 0, 1) := by decide +kernel
theorem d_S_firstFault_75 : decode b_S_firstFault 75 = .ok (.invokevirtual 57, 3) := by decide +kernel
theorem d_S_firstFault_78 : decode b_S_firstFault 78 = .ok (.putfield 39, 3) := by decide +kernel
theorem d_S_firstFault_81 : decode b_S_firstFault 81 = .ok (.aload_n 0, 1) := by decide +kernel
theorem d_S_firstFault_82 : decode b_S_firstFault 82 = .ok (.getfield 39, 3) := by decide +kernel
theorem d_S_firstFault_85 : decode b_S_firstFault 85 = .ok (.ireturn, 1) := by decide +kernel
end
section
def f_S_isKnown (NW : Nat) (kn : Nat → Int32) (a1 : Int32) : Option (Int32) := (if a1 < ((1 : Int32)) then some ((0 : Int32)) else (if ((4097 : Int32)) ≤ a1 then some ((0 : Int32)) else if oob a1 4097 then none else (if (kn (Int32.toNatClampNeg a1)) = ((1 : Int32)) then some ((1 : Int32)) else some ((0 : Int32)))))
def f_S_itemsComeUp_115 (N : Nat) (NW : Nat) (bk : Int32) (sz : Int32) (wd : Nat → Int64) (mb : Nat → Int32) (gI : Int32) (K32 : Int32 → Int64 → Int64 → Int32 → Int64 → Int64 → (Nat → Int32) → (Nat → Int32) → (Nat → Int32) → (Nat → Int32) → (Nat → Int32) → Int32 → Int32 → Int32 → Int32 → Option (Int32 × Int32 × Int64 × Int64 × Int32 × Int64 × Int64 × (Nat → Int32) × (Nat → Int32) × (Nat → Int32) × (Nat → Int32) × (Nat → Int32) × Int32)) (dr : Int32) (es : Int64) (of : Int64) (od : Int32) (pl : Int64) (hd : Int64) (tk : Nat → Int32) (kn : Nat → Int32) (li : Nat → Int32) (pa : Nat → Int32) (ins : Nat → Int32) (cm : Int32) (x1 : Int32) (x2 : Int32) (x3 : Int32) : Option (Int32 × Int32 × Int64 × Int64 × Int32 × Int64 × Int64 × (Nat → Int32) × (Nat → Int32) × (Nat → Int32) × (Nat → Int32) × (Nat → Int32) × Int32) := bd4 (f_E_advance NW sz wd mb gI dr of od pl hd) (fun (of_1 : Int64) (od_2 : Int32) (pl_3 : Int64) (hd_4 : Int64) => lt1 (x3 + (1 : Int32)) (fun (v3_6 : Int32) => (K32 dr es of_1 od_2 pl_3 hd_4 tk kn li pa ins cm x1 x2 v3_6)))
def f_S_itemsComeUp_32 (N : Nat) (NW : Nat) (bk : Int32) (sz : Int32) (wd : Nat → Int64) (mb : Nat → Int32) (gI : Int32) : Nat → Int32 → Int64 → Int64 → Int32 → Int64 → Int64 → (Nat → Int32) → (Nat → Int32) → (Nat → Int32) → (Nat → Int32) → (Nat → Int32) → Int32 → Int32 → Int32 → Int32 → Option (Int32 × Int32 × Int64 × Int64 × Int32 × Int64 × Int64 × (Nat → Int32) × (Nat → Int32) × (Nat → Int32) × (Nat → Int32) × (Nat → Int32) × Int32)
  | 0, _, _, _, _, _, _, _, _, _, _, _, _, _, _, _ => none
  | k+1, dr, es, of, od, pl, hd, tk, kn, li, pa, ins, cm, x1, x2, x3 => (if ((43691 : Int32)) ≤ x3 then some ((1 : Int32), dr, es, of, od, pl, hd, tk, kn, li, pa, ins, cm) else bd1 (f_E_isOn NW es of) (fun (r_2 : Int32) => (if r_2 = 0 then some ((1 : Int32), dr, es, of, od, pl, hd, tk, kn, li, pa, ins, cm) else bd1 (f_E_isItem NW od hd) (fun (r_5 : Int32) => (if r_5 = 0 then (f_S_itemsComeUp_115 N NW bk sz wd mb gI (f_S_itemsComeUp_32 N NW bk sz wd mb gI k) dr es of od pl hd tk kn li pa ins cm x1 x2 x3) else bd1 (f_E_inode NW hd) (fun (r_8 : Int32) => bd1 (f_S_isKnown NW kn r_8) (fun (r_10 : Int32) => (if r_10 = 0 then bd2 (f_S_takeWhole N NW bk sz wd mb gI tk r_8) (fun (r_13 : Int32) (tk_14 : Nat → Int32) => (if r_13 = 0 then some ((0 : Int32), dr, es, of, od, pl, hd, tk_14, kn, li, pa, ins, cm) else bd5 (f_S_standInLine NW kn li pa ins cm r_8 x2) (fun (kn_17 : Nat → Int32) (li_18 : Nat → Int32) (pa_19 : Nat → Int32) (ins_20 : Nat → Int32) (cm_21 : Int32) => bd1 (f_E_mark NW hd) (fun (r_23 : Int32) => (if r_23 = ((2 : Int32)) then if oob x1 4096 then none else if oob x1 4096 then none else lt1 (upd ins_20 (Int32.toNatClampNeg x1) ((ins_20 (Int32.toNatClampNeg x1)) + ((1 : Int32)))) (fun (ins_28 : Nat → Int32) => (f_S_itemsComeUp_115 N NW bk sz wd mb gI (f_S_itemsComeUp_32 N NW bk sz wd mb gI k) dr es of od pl hd tk_14 kn_17 li_18 pa_19 ins_28 cm_21 x1 x2 x3)) else (f_S_itemsComeUp_115 N NW bk sz wd mb gI (f_S_itemsComeUp_32 N NW bk sz wd mb gI k) dr es of od pl hd tk_14 kn_17 li_18 pa_19 ins_20 cm_21 x1 x2 x3)))))) else some ((0 : Int32), dr, es, of, od, pl, hd, tk, kn, li, pa, ins, cm)))))))))
def f_S_itemsComeUp (N : Nat) (NW : Nat) (bk : Int32) (sz : Int32) (wd : Nat → Int64) (mb : Nat → Int32) (gI : Int32) (dr : Int32) (es : Int64) (of : Int64) (od : Int32) (pl : Int64) (hd : Int64) (tk : Nat → Int32) (kn : Nat → Int32) (li : Nat → Int32) (pa : Nat → Int32) (ins : Nat → Int32) (cm : Int32) (a1 : Int32) : Option (Int32 × Int32 × Int64 × Int64 × Int32 × Int64 × Int64 × (Nat → Int32) × (Nat → Int32) × (Nat → Int32) × (Nat → Int32) × (Nat → Int32) × Int32) := (if a1 < 0 then some ((0 : Int32), dr, es, of, od, pl, hd, tk, kn, li, pa, ins, cm) else (if a1 < ((4096 : Int32)) then if oob a1 4096 then none else lt1 (li (Int32.toNatClampNeg a1)) (fun (v2_4 : Int32) => bd6 (f_E_start NW sz wd mb gI dr es of od pl hd v2_4) (fun (dr_5 : Int32) (es_6 : Int64) (of_7 : Int64) (od_8 : Int32) (pl_9 : Int64) (hd_10 : Int64) => (f_S_itemsComeUp_32 N NW bk sz wd mb gI N dr_5 es_6 of_7 od_8 pl_9 hd_10 tk kn li pa ins cm a1 v2_4 ((0 : Int32))))) else some ((0 : Int32), dr, es, of, od, pl, hd, tk, kn, li, pa, ins, cm)))
def f_S_treeFault_56 (N : Nat) (NW : Nat) (bk : Int32) (sz : Int32) (wd : Nat → Int64) (mb : Nat → Int32) (gI : Int32) (iN : Int32) : Nat → Int32 → Int64 → Int64 → Int32 → Int64 → Int64 → (Nat → Int32) → (Nat → Int32) → (Nat → Int32) → (Nat → Int32) → (Nat → Int32) → Int32 → Int32 → Option (Int32 × Int32 × Int64 × Int64 × Int32 × Int64 × Int64 × (Nat → Int32) × (Nat → Int32) × (Nat → Int32) × (Nat → Int32) × (Nat → Int32) × Int32)
  | 0, _, _, _, _, _, _, _, _, _, _, _, _, _ => none
  | k+1, dr, es, of, od, pl, hd, tk, kn, li, pa, ins, cm, x1 => (if cm ≤ x1 then some ((0 : Int32), dr, es, of, od, pl, hd, tk, kn, li, pa, ins, cm) else (if ((4096 : Int32)) ≤ x1 then some ((0 : Int32), dr, es, of, od, pl, hd, tk, kn, li, pa, ins, cm) else if oob x1 4096 then none else bd1 (f_L_typeOf NW sz wd mb gI (li (Int32.toNatClampNeg x1))) (fun (r_4 : Int32) => (if r_4 = ((16384 : Int32)) then if oob x1 4096 then none else if oob x1 4096 then none else bd7 (f_S_entriesStand N NW sz wd mb gI iN dr es of od pl hd (li (Int32.toNatClampNeg x1)) (pa (Int32.toNatClampNeg x1))) (fun (r_10 : Int32) (dr_11 : Int32) (es_12 : Int64) (of_13 : Int64) (od_14 : Int32) (pl_15 : Int64) (hd_16 : Int64) => (if r_10 = 0 then some ((5 : Int32), dr_11, es_12, of_13, od_14, pl_15, hd_16, tk, kn, li, pa, ins, cm) else bd13 (f_S_itemsComeUp N NW bk sz wd mb gI dr_11 es_12 of_13 od_14 pl_15 hd_16 tk kn li pa ins cm x1) (fun (r_19 : Int32) (dr_20 : Int32) (es_21 : Int64) (of_22 : Int64) (od_23 : Int32) (pl_24 : Int64) (hd_25 : Int64) (tk_26 : Nat → Int32) (kn_27 : Nat → Int32) (li_28 : Nat → Int32) (pa_29 : Nat → Int32) (ins_30 : Nat → Int32) (cm_31 : Int32) => (if r_19 = 0 then some ((4 : Int32), dr_20, es_21, of_22, od_23, pl_24, hd_25, tk_26, kn_27, li_28, pa_29, ins_30, cm_31) else lt1 (x1 + (1 : Int32)) (fun (v1_34 : Int32) => (f_S_treeFault_56 N NW bk sz wd mb gI iN k dr_20 es_21 of_22 od_23 pl_24 hd_25 tk_26 kn_27 li_28 pa_29 ins_30 cm_31 v1_34)))))) else lt1 (x1 + (1 : Int32)) (fun (v1_7 : Int32) => (f_S_treeFault_56 N NW bk sz wd mb gI iN k dr es of od pl hd tk kn li pa ins cm v1_7))))))
def f_S_treeFault (N : Nat) (NW : Nat) (bk : Int32) (sz : Int32) (wd : Nat → Int64) (mb : Nat → Int32) (gI : Int32) (iN : Int32) (dr : Int32) (es : Int64) (of : Int64) (od : Int32) (pl : Int64) (hd : Int64) (tk : Nat → Int32) (kn : Nat → Int32) (li : Nat → Int32) (pa : Nat → Int32) (ins : Nat → Int32) (cm : Int32) : Option (Int32 × Int32 × Int64 × Int64 × Int32 × Int64 × Int64 × (Nat → Int32) × (Nat → Int32) × (Nat → Int32) × (Nat → Int32) × (Nat → Int32) × Int32) := bd1 (f_J_fill8 N NW kn ((0 : Int32))) (fun (kn_1 : Nat → Int32) => bd1 (f_L_isUsed NW sz wd mb gI ((2 : Int32))) (fun (r_3 : Int32) => (if r_3 = 0 then some ((4 : Int32), dr, es, of, od, pl, hd, tk, kn_1, li, pa, ins, (0 : Int32)) else bd1 (f_L_typeOf NW sz wd mb gI ((2 : Int32))) (fun (r_6 : Int32) => (if r_6 = ((16384 : Int32)) then bd2 (f_S_takeWhole N NW bk sz wd mb gI tk ((2 : Int32))) (fun (r_9 : Int32) (tk_10 : Nat → Int32) => (if r_9 = 0 then some ((4 : Int32), dr, es, of, od, pl, hd, tk_10, kn_1, li, pa, ins, (0 : Int32)) else bd5 (f_S_standInLine NW kn_1 li pa ins ((0 : Int32)) ((2 : Int32)) ((2 : Int32))) (fun (kn_13 : Nat → Int32) (li_14 : Nat → Int32) (pa_15 : Nat → Int32) (ins_16 : Nat → Int32) (cm_17 : Int32) => (f_S_treeFault_56 N NW bk sz wd mb gI iN N dr es of od pl hd tk_10 kn_13 li_14 pa_15 ins_16 cm_17 ((0 : Int32)))))) else some ((4 : Int32), dr, es, of, od, pl, hd, tk, kn_1, li, pa, ins, (0 : Int32)))))))
def f_S_linksStand_50 (N : Nat) (NW : Nat) (sz : Int32) (wd : Nat → Int64) (mb : Nat → Int32) (gI : Int32) (li : Nat → Int32) (ins : Nat → Int32) (cm : Int32) (K2 : Int32 → Option (Int32)) (x1 : Int32) (s0 : Int32) : Option (Int32) := if oob x1 4096 then none else bd1 (f_L_field NW sz wd mb gI (li (Int32.toNatClampNeg x1)) ((26 : Int32)) ((2 : Int32))) (fun (r_2 : Int64) => (if r_2 = (Int32.toInt64 s0) then lt1 (x1 + (1 : Int32)) (fun (v1_5 : Int32) => (K2 v1_5)) else some ((0 : Int32))))
def f_S_linksStand_2 (N : Nat) (NW : Nat) (sz : Int32) (wd : Nat → Int64) (mb : Nat → Int32) (gI : Int32) (li : Nat → Int32) (ins : Nat → Int32) (cm : Int32) : Nat → Int32 → Option (Int32)
  | 0, _ => none
  | k+1, x1 => (if cm ≤ x1 then some ((1 : Int32)) else (if ((4096 : Int32)) ≤ x1 then some ((1 : Int32)) else if oob x1 4096 then none else bd1 (f_L_typeOf NW sz wd mb gI (li (Int32.toNatClampNeg x1))) (fun (r_4 : Int32) => (if r_4 = ((16384 : Int32)) then if oob x1 4096 then none else (f_S_linksStand_50 N NW sz wd mb gI li ins cm (f_S_linksStand_2 N NW sz wd mb gI li ins cm k) x1 (((2 : Int32)) + (ins (Int32.toNatClampNeg x1)))) else (f_S_linksStand_50 N NW sz wd mb gI li ins cm (f_S_linksStand_2 N NW sz wd mb gI li ins cm k) x1 ((1 : Int32)))))))
def f_S_linksStand (N : Nat) (NW : Nat) (sz : Int32) (wd : Nat → Int64) (mb : Nat → Int32) (gI : Int32) (li : Nat → Int32) (ins : Nat → Int32) (cm : Int32) : Option (Int32) := (f_S_linksStand_2 N NW sz wd mb gI li ins cm N ((0 : Int32)))
def f_S_isBlank_12 (N : Nat) (NW : Nat) (sz : Int32) (wd : Nat → Int64) (mb : Nat → Int32) (gI : Int32) : Nat → Int64 → Int32 → Option (Int32)
  | 0, _, _ => none
  | k+1, x2, x4 => (if ((128 : Int32)) ≤ x4 then some ((1 : Int32)) else bd1 (f_D_number NW sz wd (x2 + (Int32.toInt64 x4)) ((8 : Int32))) (fun (r_2 : Int64) => (if r_2 = ((0 : Int64)) then lt1 (x4 + (8 : Int32)) (fun (v4_5 : Int32) => (f_S_isBlank_12 N NW sz wd mb gI k x2 v4_5)) else some ((0 : Int32)))))
def f_S_isBlank (N : Nat) (NW : Nat) (sz : Int32) (wd : Nat → Int64) (mb : Nat → Int32) (gI : Int32) (a1 : Int32) : Option (Int32) := bd1 (f_L_inodePlace NW mb gI a1) (fun (r_1 : Int64) => (f_S_isBlank_12 N NW sz wd mb gI N r_1 ((0 : Int32))))
def f_S_inodesStand_42 (N : Nat) (NW : Nat) (sz : Int32) (wd : Nat → Int64) (mb : Nat → Int32) (gI : Int32) (iN : Int32) (kn : Nat → Int32) (K2 : Int32 → Option (Int32)) (x1 : Int32) (x2 : Int32) (s0 : Int32) (s1 : Int32) : Option (Int32) := (if s0 = s1 then (if x2 = 0 then bd1 (f_S_isBlank N NW sz wd mb gI x1) (fun (r_4 : Int32) => (if r_4 = 0 then some ((0 : Int32)) else lt1 (x1 + (1 : Int32)) (fun (v1_7 : Int32) => (K2 v1_7)))) else lt1 (x1 + (1 : Int32)) (fun (v1_3 : Int32) => (K2 v1_3))) else some ((0 : Int32)))
def f_S_inodesStand_37 (N : Nat) (NW : Nat) (sz : Int32) (wd : Nat → Int64) (mb : Nat → Int32) (gI : Int32) (iN : Int32) (kn : Nat → Int32) (K2 : Int32 → Option (Int32)) (x1 : Int32) (x2 : Int32) (s0 : Int32) : Option (Int32) := (f_S_inodesStand_42 N NW sz wd mb gI iN kn K2 x1 x2 s0 ((1 : Int32)))
def f_S_inodesStand_2 (N : Nat) (NW : Nat) (sz : Int32) (wd : Nat → Int64) (mb : Nat → Int32) (gI : Int32) (iN : Int32) (kn : Nat → Int32) : Nat → Int32 → Option (Int32)
  | 0, _ => none
  | k+1, x1 => bd1 (f_L_inodes NW iN) (fun (r_1 : Int32) => (if r_1 < x1 then some ((1 : Int32)) else bd1 (f_S_isKnown NW kn x1) (fun (r_4 : Int32) => bd1 (f_L_isUsed NW sz wd mb gI x1) (fun (r_6 : Int32) => (if r_4 = 0 then (if ((11 : Int32)) < x1 then (f_S_inodesStand_42 N NW sz wd mb gI iN kn (f_S_inodesStand_2 N NW sz wd mb gI iN kn k) x1 r_4 r_6 ((0 : Int32))) else (f_S_inodesStand_37 N NW sz wd mb gI iN kn (f_S_inodesStand_2 N NW sz wd mb gI iN kn k) x1 r_4 r_6)) else (f_S_inodesStand_37 N NW sz wd mb gI iN kn (f_S_inodesStand_2 N NW sz wd mb gI iN kn k) x1 r_4 r_6))))))
def f_S_inodesStand (N : Nat) (NW : Nat) (sz : Int32) (wd : Nat → Int64) (mb : Nat → Int32) (gI : Int32) (iN : Int32) (kn : Nat → Int32) : Option (Int32) := (f_S_inodesStand_2 N NW sz wd mb gI iN kn N ((1 : Int32)))
def f_S_isTaken (NW : Nat) (tk : Nat → Int32) (a1 : Int32) : Option (Int32) := (if a1 < 0 then some ((0 : Int32)) else (if ((512 : Int32)) ≤ a1 then some ((0 : Int32)) else if oob a1 512 then none else (if (tk (Int32.toNatClampNeg a1)) = 0 then some ((0 : Int32)) else some ((1 : Int32)))))
def f_S_blockMapStands_11 (N : Nat) (NW : Nat) (bk : Int32) (sz : Int32) (wd : Nat → Int64) (mb : Nat → Int32) (gB : Int32) (tk : Nat → Int32) : Nat → Int32 → Int32 → Int32 → Option (Int32)
  | 0, _, _, _ => none
  | k+1, x1, x2, x3 => (if x2 ≤ x3 then bd1 (f_L_blockMap NW mb x1) (fun (r_2 : Int64) => bd1 (f_D_onesFrom N NW sz wd r_2 x2) (fun (r_4 : Int32) => if is01 r_4 then some (r_4) else none)) else bd1 (f_L_blockMap NW mb x1) (fun (r_7 : Int64) => bd1 (f_D_bit NW sz wd r_7 x3) (fun (r_9 : Int32) => bd1 (f_L_firstBlock NW gB x1) (fun (r_11 : Int32) => bd1 (f_S_isTaken NW tk (r_11 + x3)) (fun (r_13 : Int32) => (if r_9 = r_13 then lt1 (x3 + (1 : Int32)) (fun (v3_16 : Int32) => (f_S_blockMapStands_11 N NW bk sz wd mb gB tk k x1 x2 v3_16)) else some ((0 : Int32))))))))
def f_S_blockMapStands (N : Nat) (NW : Nat) (bk : Int32) (sz : Int32) (wd : Nat → Int64) (mb : Nat → Int32) (gB : Int32) (tk : Nat → Int32) (a1 : Int32) : Option (Int32) := bd1 (f_L_blocksOf NW bk gB a1) (fun (r_1 : Int32) => (f_S_blockMapStands_11 N NW bk sz wd mb gB tk N a1 r_1 ((0 : Int32))))
def f_S_freeBlocks_14 (N : Nat) (NW : Nat) (bk : Int32) (gB : Int32) (tk : Nat → Int32) : Nat → Int32 → Int32 → Int32 → Int32 → Option (Int32)
  | 0, _, _, _, _ => none
  | k+1, x1, x2, x3, x4 => (if x2 ≤ x4 then some (x3) else bd1 (f_L_firstBlock NW gB x1) (fun (r_2 : Int32) => bd1 (f_S_isTaken NW tk (r_2 + x4)) (fun (r_4 : Int32) => (if r_4 = 0 then lt1 (x3 + (1 : Int32)) (fun (v3_8 : Int32) => lt1 (x4 + (1 : Int32)) (fun (v4_9 : Int32) => (f_S_freeBlocks_14 N NW bk gB tk k x1 x2 v3_8 v4_9))) else lt1 (x4 + (1 : Int32)) (fun (v4_7 : Int32) => (f_S_freeBlocks_14 N NW bk gB tk k x1 x2 x3 v4_7))))))
def f_S_freeBlocks (N : Nat) (NW : Nat) (bk : Int32) (gB : Int32) (tk : Nat → Int32) (a1 : Int32) : Option (Int32) := bd1 (f_L_blocksOf NW bk gB a1) (fun (r_1 : Int32) => (f_S_freeBlocks_14 N NW bk gB tk N a1 r_1 ((0 : Int32)) ((0 : Int32))))
def f_S_freeInodes_4 (N : Nat) (NW : Nat) (sz : Int32) (wd : Nat → Int64) (mb : Nat → Int32) (gI : Int32) : Nat → Int32 → Int32 → Int32 → Option (Int32)
  | 0, _, _, _ => none
  | k+1, x1, x2, x3 => bd1 (f_L_groupInodes NW gI) (fun (r_1 : Int32) => (if r_1 ≤ x3 then some (x2) else bd1 (f_L_inodeMap NW mb x1) (fun (r_4 : Int64) => bd1 (f_D_bit NW sz wd r_4 x3) (fun (r_6 : Int32) => (if r_6 = 0 then lt1 (x2 + (1 : Int32)) (fun (v2_10 : Int32) => lt1 (x3 + (1 : Int32)) (fun (v3_11 : Int32) => (f_S_freeInodes_4 N NW sz wd mb gI k x1 v2_10 v3_11))) else lt1 (x3 + (1 : Int32)) (fun (v3_9 : Int32) => (f_S_freeInodes_4 N NW sz wd mb gI k x1 x2 v3_9)))))))
def f_S_freeInodes (N : Nat) (NW : Nat) (sz : Int32) (wd : Nat → Int64) (mb : Nat → Int32) (gI : Int32) (a1 : Int32) : Option (Int32) := (f_S_freeInodes_4 N NW sz wd mb gI N a1 ((0 : Int32)) ((0 : Int32)))
def f_S_directories_4 (N : Nat) (NW : Nat) (sz : Int32) (wd : Nat → Int64) (mb : Nat → Int32) (gI : Int32) (li : Nat → Int32) (cm : Int32) : Nat → Int32 → Int32 → Int32 → Option (Int32)
  | 0, _, _, _ => none
  | k+1, x1, x2, x3 => (if cm ≤ x3 then some (x2) else (if ((4096 : Int32)) ≤ x3 then some (x2) else if oob x3 4096 then none else bd1 (f_L_groupOf NW gI (li (Int32.toNatClampNeg x3))) (fun (r_4 : Int32) => (if r_4 = x1 then if oob x3 4096 then none else bd1 (f_L_typeOf NW sz wd mb gI (li (Int32.toNatClampNeg x3))) (fun (r_9 : Int32) => (if r_9 = ((16384 : Int32)) then lt1 (x2 + (1 : Int32)) (fun (v2_13 : Int32) => lt1 (x3 + (1 : Int32)) (fun (v3_14 : Int32) => (f_S_directories_4 N NW sz wd mb gI li cm k x1 v2_13 v3_14))) else lt1 (x3 + (1 : Int32)) (fun (v3_12 : Int32) => (f_S_directories_4 N NW sz wd mb gI li cm k x1 x2 v3_12)))) else lt1 (x3 + (1 : Int32)) (fun (v3_7 : Int32) => (f_S_directories_4 N NW sz wd mb gI li cm k x1 x2 v3_7))))))
def f_S_directories (N : Nat) (NW : Nat) (sz : Int32) (wd : Nat → Int64) (mb : Nat → Int32) (gI : Int32) (li : Nat → Int32) (cm : Int32) (a1 : Int32) : Option (Int32) := (f_S_directories_4 N NW sz wd mb gI li cm N a1 ((0 : Int32)) ((0 : Int32)))
def f_S_mapsStand_6 (N : Nat) (NW : Nat) (bk : Int32) (sz : Int32) (wd : Nat → Int64) (mb : Nat → Int32) (gB : Int32) (gI : Int32) (gN : Int32) (tk : Nat → Int32) (li : Nat → Int32) (cm : Int32) : Nat → Int32 → Int32 → Int32 → Option (Int32)
  | 0, _, _, _ => none
  | k+1, x1, x2, x3 => bd1 (f_L_groups NW gN) (fun (r_1 : Int32) => (if r_1 ≤ x3 then bd1 (f_S_superblockHas NW sz wd ((12 : Int32)) ((4 : Int32)) (Int32.toInt64 x1)) (fun (r_4 : Int32) => (if r_4 = 0 then some ((0 : Int32)) else bd1 (f_S_superblockHas NW sz wd ((16 : Int32)) ((4 : Int32)) (Int32.toInt64 x2)) (fun (r_7 : Int32) => (if r_7 = 0 then some ((0 : Int32)) else some ((1 : Int32)))))) else bd1 (f_S_blockMapStands N NW bk sz wd mb gB tk x3) (fun (r_10 : Int32) => (if r_10 = 0 then some ((0 : Int32)) else bd1 (f_L_inodeMap NW mb x3) (fun (r_13 : Int64) => bd1 (f_L_groupInodes NW gI) (fun (r_15 : Int32) => bd1 (f_D_onesFrom N NW sz wd r_13 r_15) (fun (r_17 : Int32) => (if r_17 = 0 then some ((0 : Int32)) else bd1 (f_S_freeBlocks N NW bk gB tk x3) (fun (r_20 : Int32) => bd1 (f_S_freeInodes N NW sz wd mb gI x3) (fun (r_22 : Int32) => bd1 (f_L_described NW sz wd x3 ((12 : Int32)) ((2 : Int32))) (fun (r_24 : Int64) => (if r_24 = (Int32.toInt64 r_20) then bd1 (f_L_described NW sz wd x3 ((14 : Int32)) ((2 : Int32))) (fun (r_27 : Int64) => (if r_27 = (Int32.toInt64 r_22) then bd1 (f_L_described NW sz wd x3 ((16 : Int32)) ((2 : Int32))) (fun (r_30 : Int64) => bd1 (f_S_directories N NW sz wd mb gI li cm x3) (fun (r_32 : Int32) => (if r_30 = (Int32.toInt64 r_32) then lt1 (x1 + r_20) (fun (v1_35 : Int32) => lt1 (x2 + r_22) (fun (v2_36 : Int32) => lt1 (x3 + (1 : Int32)) (fun (v3_37 : Int32) => (f_S_mapsStand_6 N NW bk sz wd mb gB gI gN tk li cm k v1_35 v2_36 v3_37)))) else some ((0 : Int32))))) else some ((0 : Int32)))) else some ((0 : Int32))))))))))))))
def f_S_mapsStand (N : Nat) (NW : Nat) (bk : Int32) (sz : Int32) (wd : Nat → Int64) (mb : Nat → Int32) (gB : Int32) (gI : Int32) (gN : Int32) (tk : Nat → Int32) (li : Nat → Int32) (cm : Int32) : Option (Int32) := (f_S_mapsStand_6 N NW bk sz wd mb gB gI gN tk li cm N ((0 : Int32)) ((0 : Int32)) ((0 : Int32)))
def f_S_lateFault (N : Nat) (NW : Nat) (bk : Int32) (sz : Int32) (wd : Nat → Int64) (mb : Nat → Int32) (gB : Int32) (gI : Int32) (gN : Int32) (iN : Int32) (tk : Nat → Int32) (kn : Nat → Int32) (li : Nat → Int32) (ins : Nat → Int32) (cm : Int32) : Option (Int32) := bd1 (f_S_linksStand N NW sz wd mb gI li ins cm) (fun (r_1 : Int32) => (if r_1 = 0 then some ((6 : Int32)) else bd1 (f_S_inodesStand N NW sz wd mb gI iN kn) (fun (r_4 : Int32) => (if r_4 = 0 then some ((7 : Int32)) else bd1 (f_S_mapsStand N NW bk sz wd mb gB gI gN tk li cm) (fun (r_7 : Int32) => (if r_7 = 0 then some ((8 : Int32)) else some ((0 : Int32))))))))
def f_S_firstFault_66 (N : Nat) (NW : Nat) (bk : Int32) (sz : Int32) (wd : Nat → Int64) (mb : Nat → Int32) (gB : Int32) (gI : Int32) (gN : Int32) (iN : Int32) (dr : Int32) (es : Int64) (of : Int64) (od : Int32) (pl : Int64) (hd : Int64) (tk : Nat → Int32) (kn : Nat → Int32) (li : Nat → Int32) (pa : Nat → Int32) (ins : Nat → Int32) (cm : Int32) (fd : Int32) : Option (Int32 × (Nat → Int32) × Int32 × Int32 × Int32 × Int32 × Int32 × Int64 × Int64 × Int32 × Int64 × Int64 × (Nat → Int32) × (Nat → Int32) × (Nat → Int32) × (Nat → Int32) × (Nat → Int32) × Int32 × Int32) := (if fd = 0 then bd1 (f_S_lateFault N NW bk sz wd mb gB gI gN iN tk kn li ins cm) (fun (r_2 : Int32) => some (r_2, mb, gB, gI, gN, iN, dr, es, of, od, pl, hd, tk, kn, li, pa, ins, cm, r_2)) else some (fd, mb, gB, gI, gN, iN, dr, es, of, od, pl, hd, tk, kn, li, pa, ins, cm, fd))
def f_S_firstFault (N : Nat) (NW : Nat) (bk : Int32) (sz : Int32) (wd : Nat → Int64) (mb : Nat → Int32) (gB : Int32) (gI : Int32) (gN : Int32) (iN : Int32) (dr : Int32) (es : Int64) (of : Int64) (od : Int32) (pl : Int64) (hd : Int64) (tk : Nat → Int32) (kn : Nat → Int32) (li : Nat → Int32) (pa : Nat → Int32) (ins : Nat → Int32) (cm : Int32) (fd : Int32) : Option (Int32 × (Nat → Int32) × Int32 × Int32 × Int32 × Int32 × Int32 × Int64 × Int64 × Int32 × Int64 × Int64 × (Nat → Int32) × (Nat → Int32) × (Nat → Int32) × (Nat → Int32) × (Nat → Int32) × Int32 × Int32) := (if fd = ((-1 : Int32)) then bd5 (f_S_superblockStands NW bk sz wd gB gI gN iN) (fun (r_2 : Int32) (gB_3 : Int32) (gI_4 : Int32) (gN_5 : Int32) (iN_6 : Int32) => (if r_2 = 0 then (f_S_firstFault_66 N NW bk sz wd mb gB_3 gI_4 gN_5 iN_6 dr es of od pl hd tk kn li pa ins cm ((1 : Int32))) else bd1 (f_S_copiesStand N NW bk sz wd gB_3 gN_5) (fun (r_9 : Int32) => (if r_9 = 0 then (f_S_firstFault_66 N NW bk sz wd mb gB_3 gI_4 gN_5 iN_6 dr es of od pl hd tk kn li pa ins cm ((2 : Int32))) else bd3 (f_S_groupsStand N NW bk sz wd mb gB_3 gI_4 gN_5 tk) (fun (r_12 : Int32) (mb_13 : Nat → Int32) (tk_14 : Nat → Int32) => (if r_12 = 0 then (f_S_firstFault_66 N NW bk sz wd mb_13 gB_3 gI_4 gN_5 iN_6 dr es of od pl hd tk_14 kn li pa ins cm ((3 : Int32))) else bd13 (f_S_treeFault N NW bk sz wd mb_13 gI_4 iN_6 dr es of od pl hd tk_14 kn li pa ins cm) (fun (r_17 : Int32) (dr_18 : Int32) (es_19 : Int64) (of_20 : Int64) (od_21 : Int32) (pl_22 : Int64) (hd_23 : Int64) (tk_24 : Nat → Int32) (kn_25 : Nat → Int32) (li_26 : Nat → Int32) (pa_27 : Nat → Int32) (ins_28 : Nat → Int32) (cm_29 : Int32) => (f_S_firstFault_66 N NW bk sz wd mb_13 gB_3 gI_4 gN_5 iN_6 dr_18 es_19 of_20 od_21 pl_22 hd_23 tk_24 kn_25 li_26 pa_27 ins_28 cm_29 r_17)))))))) else some (fd, mb, gB, gI, gN, iN, dr, es, of, od, pl, hd, tk, kn, li, pa, ins, cm, fd))
end
section
set_option maxHeartbeats 4000000 in
set_option maxRecDepth 100000 in
theorem c_S_isKnown {l : Launch} {dC : Nat → ClassId} {dI : Nat → Nat → Nat} {h : Nat → Nat} {cI : ClassId} {cL : ClassId} {NW : Nat} {bk : Int32} {sz : Int32} {wd : Nat → Int64} {mb : Nat → Int32} {gB : Int32} {gI : Int32} {gN : Int32} {iN : Int32} {dr : Int32} {es : Int64} {of : Int64} {od : Int32} {pl : Int64} {hd : Int64} {tk : Nat → Int32} {kn : Nat → Int32} {li : Nat → Int32} {pa : Nat → Int32} {ins : Nat → Int32} {cm : Int32} {fd : Int32} {hr : Int32} {hs : Nat} {a1 : Int32} {r : Int32} (hf : f_S_isKnown NW kn a1 = some (r)) : Met l y_S_isKnown ws_S_isKnown { frames := 0, cells := 0, slots := 0, locals := 0 } (PcU (dC, dI) clAll [(cI, .int), (cL, .long)] (wC h cI cL NW bk sz wd mb gB gI gN iN dr es of od pl hd tk kn li pa ins cm fd hr) hs [.ref (h 6), .int a1]) (QUi (dC, dI) clAll [(cI, .int), (cL, .long)] (wC h cI cL NW bk sz wd mb gB gI gN iN dr es of od pl hd tk kn li pa ins cm fd hr) (wC h cI cL NW bk sz wd mb gB gI gN iN dr es of od pl hd tk kn li pa ins cm fd hr) hs r) 0 0 (va_A (wC h cI cL NW bk sz wd mb gB gI gN iN dr es of od pl hd tk kn li pa ins cm fd hr) hs) := by
  refine mUz (cc := b_S_isKnown) (maxL := 2) (by decide) rfl (Nat.le_of_ble_eq_true rfl) ?_
  intro p e s m args below meth c Q hx hb hml hts hown A hA hK hP hD hS hret ls hl
  have htb : ∀ w ∈ TB, w.before args s = true := fun w h => hts w (List.mem_cons_of_mem _ h)
  have hl : lv_has ls 2 [(0, .ref (h 6)), (1, .int a1)] := hl
  unfold f_S_isKnown at hf
  refine lv_iload_n hx hb d_S_isKnown_0 rfl (lv_at hl 1 rfl) ?_
  refine lv_iconst (v := 1) hx hb d_S_isKnown_1 (by decide) ?_
  refine lv_icmp_lt (tgt := 28) hx hb d_S_isKnown_2 (by decide) (fun c_1 => ?_) (fun c_1 => ?_)
  · have hf := ite_t c_1 hf
    refine lv_iconst (v := 0) hx hb d_S_isKnown_28 (by decide) ?_
    cases hf
    exact hret _ _ _ _ (Or.inl rfl) hP hD hS d_S_isKnown_29
  · have hf := ite_f c_1 hf
    refine lv_iload_n hx hb d_S_isKnown_5 rfl (lv_at hl 1 rfl) ?_
    refine lv_aload_n hx hb d_S_isKnown_6 rfl (lv_at hl 0 rfl) ?_
    refine va_get (D := (dC, dI)) (ci := 3) (v := .ref (h 8)) (C := R_S) (T := T_S) (N := 10) hx hb htb in_S hown hK hP 6 rfl rfl 4 (by decide) (htb _ tw_180) (fun _ h9 => h9) rfl d_S_isKnown_7 ?_
    refine va_alen (v := (4097 : Int32)) hx hb hK hP 8 0 rfl rfl rfl d_S_isKnown_10 ?_
    refine lv_icmp_ge (tgt := 28) hx hb d_S_isKnown_11 (by decide) (fun c_2 => ?_) (fun c_2 => ?_)
    · have hf := ite_t c_2 hf
      refine lv_iconst (v := 0) hx hb d_S_isKnown_28 (by decide) ?_
      cases hf
      exact hret _ _ _ _ (Or.inl rfl) hP hD hS d_S_isKnown_29
    · have hf := ite_f c_2 hf
      refine lv_aload_n hx hb d_S_isKnown_14 rfl (lv_at hl 0 rfl) ?_
      refine va_get (D := (dC, dI)) (ci := 3) (v := .ref (h 8)) (C := R_S) (T := T_S) (N := 10) hx hb htb in_S hown hK hP 6 rfl rfl 4 (by decide) (htb _ tw_180) (fun _ h9 => h9) rfl d_S_isKnown_15 ?_
      refine lv_iload_n hx hb d_S_isKnown_18 rfl (lv_at hl 1 rfl) ?_
      obtain ⟨c_3, hf⟩ := gd_s hf
      refine va_iald (i := a1) hx hb hK hP 8 0 rfl rfl c_3 d_S_isKnown_19 ?_
      refine lv_iconst (v := 1) hx hb d_S_isKnown_20 (by decide) ?_
      refine lv_icmp_ne (tgt := 28) hx hb d_S_isKnown_21 (by decide) (fun c_4 => ?_) (fun c_4 => ?_)
      · have hf := ite_f c_4 hf
        refine lv_iconst (v := 0) hx hb d_S_isKnown_28 (by decide) ?_
        cases hf
        exact hret _ _ _ _ (Or.inl rfl) hP hD hS d_S_isKnown_29
      · have hf := ite_t c_4 hf
        refine lv_iconst (v := 1) hx hb d_S_isKnown_24 (by decide) ?_
        refine lv_goto (tgt := 29) hx hb d_S_isKnown_25 (by decide) ?_
        cases hf
        exact hret _ _ _ _ (Or.inr rfl) hP hD hS d_S_isKnown_29
set_option maxHeartbeats 4000000 in
set_option maxRecDepth 100000 in
theorem c_S_itemsComeUp {l : Launch} {dC : Nat → ClassId} {dI : Nat → Nat → Nat} {N : Nat} {h : Nat → Nat} {cI : ClassId} {cL : ClassId} {NW : Nat} {bk : Int32} {sz : Int32} {wd : Nat → Int64} {mb : Nat → Int32} {gB : Int32} {gI : Int32} {gN : Int32} {iN : Int32} {dr : Int32} {es : Int64} {of : Int64} {od : Int32} {pl : Int64} {hd : Int64} {tk : Nat → Int32} {kn : Nat → Int32} {li : Nat → Int32} {pa : Nat → Int32} {ins : Nat → Int32} {cm : Int32} {fd : Int32} {hr : Int32} {hs : Nat} {a1 : Int32} {r : Int32} {dr' : Int32} {es' : Int64} {of' : Int64} {od' : Int32} {pl' : Int64} {hd' : Int64} {tk' : Nat → Int32} {kn' : Nat → Int32} {li' : Nat → Int32} {pa' : Nat → Int32} {ins' : Nat → Int32} {cm' : Int32} (hf : f_S_itemsComeUp N NW bk sz wd mb gI dr es of od pl hd tk kn li pa ins cm a1 = some (r, dr', es', of', od', pl', hd', tk', kn', li', pa', ins', cm')) : Met l y_S_itemsComeUp ws_S_itemsComeUp { frames := 3, cells := 0, slots := 0, locals := 85 } (PcU (dC, dI) clAll [(cI, .int), (cL, .long)] (wC h cI cL NW bk sz wd mb gB gI gN iN dr es of od pl hd tk kn li pa ins cm fd hr) hs [.ref (h 6), .int a1]) (QUi (dC, dI) clAll [(cI, .int), (cL, .long)] (wC h cI cL NW bk sz wd mb gB gI gN iN dr es of od pl hd tk kn li pa ins cm fd hr) (wC h cI cL NW bk sz wd mb gB gI gN iN dr' es' of' od' pl' hd' tk' kn' li' pa' ins' cm' fd hr) hs r) 0 0 (va_A (wC h cI cL NW bk sz wd mb gB gI gN iN dr es of od pl hd tk kn li pa ins cm fd hr) hs) := by
  refine mUz (cc := b_S_itemsComeUp) (maxL := 5) (by decide) rfl (Nat.le_of_ble_eq_true rfl) ?_
  intro p e s m args below meth c Q hx hb hml hts hown A hA hK hP hD hS hret ls hl
  have htb : ∀ w ∈ TB, w.before args s = true := fun w h => hts w (List.mem_cons_of_mem _ h)
  have hl : lv_has ls 5 [(0, .ref (h 6)), (1, .int a1)] := hl
  have hj_32 : ∀ (k_32 : Nat) (dr : Int32) (es : Int64) (of : Int64) (od : Int32) (pl : Int64) (hd : Int64) (tk : Nat → Int32) (kn : Nat → Int32) (li : Nat → Int32) (pa : Nat → Int32) (ins : Nat → Int32) (cm : Int32) (x1 : Int32) (x2 : Int32) (x3 : Int32) (H : Heap) (locs : List Loc) (ls : Array Slot), f_S_itemsComeUp_32 N NW bk sz wd mb gI k_32 dr es of od pl hd tk kn li pa ins cm x1 x2 x3 = some (r, dr', es', of', od', pl', hd', tk', kn', li', pa', ins', cm') → va_P (dC, dI) clAll (wC h cI cL NW bk sz wd mb gB gI gN iN dr es of od pl hd tk kn li pa ins cm fd hr) H → va_D A (wC h cI cL NW bk sz wd mb gB gI gN iN dr es of od pl hd tk kn li pa ins cm fd hr) → va_S A s.heap H locs → lv_has ls 5 [(0, .ref (h 6)), (1, .int x1), (2, .int x2), (3, .int x3)] → W p l e (headSpec ws_S_itemsComeUp { frames := 3, cells := 0, slots := 0, locals := 85 }).room s m args below meth c H locs 0 0 Q (F0 m 32 ls []) := by
    intro k_32
    induction k_32 with
    | zero => intro _ _ _ _ _ _ _ _ _ _ _ _ _ _ _ _ _ _ hf; exact absurd hf (by simp [f_S_itemsComeUp_32])
    | succ k_32 ih_32 =>
      have hj_115 : ∀ (dr : Int32) (es : Int64) (of : Int64) (od : Int32) (pl : Int64) (hd : Int64) (tk : Nat → Int32) (kn : Nat → Int32) (li : Nat → Int32) (pa : Nat → Int32) (ins : Nat → Int32) (cm : Int32) (x1 : Int32) (x2 : Int32) (x3 : Int32) (H : Heap) (locs : List Loc) (ls : Array Slot), f_S_itemsComeUp_115 N NW bk sz wd mb gI (f_S_itemsComeUp_32 N NW bk sz wd mb gI k_32) dr es of od pl hd tk kn li pa ins cm x1 x2 x3 = some (r, dr', es', of', od', pl', hd', tk', kn', li', pa', ins', cm') → va_P (dC, dI) clAll (wC h cI cL NW bk sz wd mb gB gI gN iN dr es of od pl hd tk kn li pa ins cm fd hr) H → va_D A (wC h cI cL NW bk sz wd mb gB gI gN iN dr es of od pl hd tk kn li pa ins cm fd hr) → va_S A s.heap H locs → lv_has ls 5 [(0, .ref (h 6)), (1, .int x1), (2, .int x2), (3, .int x3)] → W p l e (headSpec ws_S_itemsComeUp { frames := 3, cells := 0, slots := 0, locals := 85 }).room s m args below meth c H locs 0 0 Q (F0 m 115 ls []) := by
        intro dr es of od pl hd tk kn li pa ins cm x1 x2 x3 H locs ls hf hP hD hS hl
        unfold f_S_itemsComeUp_115 at hf
        refine lv_aload_n hx hb d_S_itemsComeUp_115 rfl (lv_at hl 0 rfl) ?_
        refine va_get (D := (dC, dI)) (ci := 3) (v := .ref (h 5)) (C := R_S) (T := T_S) (N := 10) hx hb htb in_S hown hK hP 6 rfl rfl 2 (by decide) (htb _ tw_178) (fun _ h9 => h9) rfl d_S_itemsComeUp_116 ?_
        obtain ⟨of_1, od_2, pl_3, hd_4, hc_5, hf⟩ := bd4_s hf
        refine ucVv (As := []) (rest := []) ⟨hx, hb, hml, hown, htb⟩ hK hP hD hS hA (fun hs => c_E_advance hc_5) (cwV 0 htb (gV tw_505 tw_506 tw_507 tw_72 tw_508) rfl rfl rfl (by decide +kernel) ⟨Nat.le_of_ble_eq_true rfl, Nat.le_of_ble_eq_true rfl⟩) 5 1 rfl rfl rfl rfl rfl hl.1 (Nat.le_of_ble_eq_true rfl) d_S_itemsComeUp_119 ⟨Nat.zero_le _, Nat.zero_le _⟩ (fun H locs hP hD hS => ?_)
        obtain ⟨v3_6, ev3_6, hf⟩ := lt1_s hf
        refine lv_iinc (v := v3_6) (lv' := [(3, .int v3_6), (0, .ref (h 6)), (1, .int x1), (2, .int x2)]) hx hb d_S_itemsComeUp_122 hl (k := 3) rfl (by rw [← ev3_6]; rfl) (by decide) rfl (fun ls hl => ?_)
        refine lv_goto (tgt := 32) hx hb d_S_itemsComeUp_125 (by decide) ?_
        exact ih_32 dr es of_1 od_2 pl_3 hd_4 tk kn li pa ins cm x1 x2 v3_6 _ _ _ hf hP hD hS (lv_sub hl [1, 2, 3, 0] rfl)
      intro dr es of od pl hd tk kn li pa ins cm x1 x2 x3 H locs ls hf hP hD hS hl
      rw [f_S_itemsComeUp_32] at hf
      refine lv_iload_n hx hb d_S_itemsComeUp_32 rfl (lv_at hl 3 rfl) ?_
      refine lv_ldc (v := 43691) hx hb hown (htb _ tw_441) d_S_itemsComeUp_33 ?_
      refine lv_icmp_ge (tgt := 128) hx hb d_S_itemsComeUp_35 (by decide) (fun c_1 => ?_) (fun c_1 => ?_)
      · have hf := ite_t c_1 hf
        refine lv_iconst (v := 1) hx hb d_S_itemsComeUp_128 (by decide) ?_
        cases hf
        exact hret _ _ _ _ (Or.inr rfl) hP hD hS d_S_itemsComeUp_129
      · have hf := ite_f c_1 hf
        refine lv_aload_n hx hb d_S_itemsComeUp_38 rfl (lv_at hl 0 rfl) ?_
        refine va_get (D := (dC, dI)) (ci := 3) (v := .ref (h 5)) (C := R_S) (T := T_S) (N := 10) hx hb htb in_S hown hK hP 6 rfl rfl 2 (by decide) (htb _ tw_178) (fun _ h9 => h9) rfl d_S_itemsComeUp_39 ?_
        obtain ⟨r_2, hc_3, hf⟩ := bd1_s hf
        refine ucVi (As := []) (rest := []) ⟨hx, hb, hml, hown, htb⟩ hK hP hD hS hA (fun hs => c_E_isOn hc_3) (cwV 0 htb (gV tw_442 tw_443 tw_444 tw_72 tw_445) rfl rfl rfl (by decide +kernel) ⟨Nat.le_of_ble_eq_true rfl, Nat.le_of_ble_eq_true rfl⟩) 5 1 rfl rfl rfl rfl rfl hl.1 (Nat.le_of_ble_eq_true rfl) d_S_itemsComeUp_42 ⟨Nat.zero_le _, Nat.zero_le _⟩ (fun H locs hP hD hS => ?_)
        refine lv_if_eq (tgt := 128) hx hb d_S_itemsComeUp_45 (by decide) (fun c_4 => ?_) (fun c_4 => ?_)
        · have hf := ite_t c_4 hf
          refine lv_iconst (v := 1) hx hb d_S_itemsComeUp_128 (by decide) ?_
          cases hf
          exact hret _ _ _ _ (Or.inr rfl) hP hD hS d_S_itemsComeUp_129
        · have hf := ite_f c_4 hf
          refine lv_aload_n hx hb d_S_itemsComeUp_48 rfl (lv_at hl 0 rfl) ?_
          refine va_get (D := (dC, dI)) (ci := 3) (v := .ref (h 5)) (C := R_S) (T := T_S) (N := 10) hx hb htb in_S hown hK hP 6 rfl rfl 2 (by decide) (htb _ tw_178) (fun _ h9 => h9) rfl d_S_itemsComeUp_49 ?_
          obtain ⟨r_5, hc_6, hf⟩ := bd1_s hf
          refine ucVi (As := []) (rest := []) ⟨hx, hb, hml, hown, htb⟩ hK hP hD hS hA (fun hs => c_E_isItem hc_6) (cwV 0 htb (gV tw_514 tw_515 tw_516 tw_72 tw_517) rfl rfl rfl (by decide +kernel) ⟨Nat.le_of_ble_eq_true rfl, Nat.le_of_ble_eq_true rfl⟩) 5 1 rfl rfl rfl rfl rfl hl.1 (Nat.le_of_ble_eq_true rfl) d_S_itemsComeUp_52 ⟨Nat.zero_le _, Nat.zero_le _⟩ (fun H locs hP hD hS => ?_)
          refine lv_if_eq (tgt := 115) hx hb d_S_itemsComeUp_55 (by decide) (fun c_7 => ?_) (fun c_7 => ?_)
          · have hf := ite_t c_7 hf
            exact hj_115 dr es of od pl hd tk kn li pa ins cm x1 x2 x3 _ _ _ hf hP hD hS (lv_sub hl [0, 1, 2, 3] rfl)
          · have hf := ite_f c_7 hf
            refine lv_aload_n hx hb d_S_itemsComeUp_58 rfl (lv_at hl 0 rfl) ?_
            refine va_get (D := (dC, dI)) (ci := 3) (v := .ref (h 5)) (C := R_S) (T := T_S) (N := 10) hx hb htb in_S hown hK hP 6 rfl rfl 2 (by decide) (htb _ tw_178) (fun _ h9 => h9) rfl d_S_itemsComeUp_59 ?_
            obtain ⟨r_8, hc_9, hf⟩ := bd1_s hf
            refine ucVi (As := []) (rest := []) ⟨hx, hb, hml, hown, htb⟩ hK hP hD hS hA (fun hs => c_E_inode hc_9) (cwV 0 htb (gV tw_482 tw_483 tw_484 tw_72 tw_485) rfl rfl rfl (by decide +kernel) ⟨Nat.le_of_ble_eq_true rfl, Nat.le_of_ble_eq_true rfl⟩) 5 1 rfl rfl rfl rfl rfl hl.1 (Nat.le_of_ble_eq_true rfl) d_S_itemsComeUp_62 ⟨Nat.zero_le _, Nat.zero_le _⟩ (fun H locs hP hD hS => ?_)
            refine lv_istore (lv' := [(4, .int r_8), (0, .ref (h 6)), (1, .int x1), (2, .int x2), (3, .int x3)]) hx hb d_S_itemsComeUp_65 hl (by decide) rfl (fun ls hl => ?_)
            refine lv_aload_n hx hb d_S_itemsComeUp_67 rfl (lv_at hl 1 rfl) ?_
            refine lv_iload hx hb d_S_itemsComeUp_68 (lv_at hl 0 rfl) ?_
            obtain ⟨r_10, hc_11, hf⟩ := bd1_s hf
            refine ucVi (As := [.int r_8]) (rest := []) ⟨hx, hb, hml, hown, htb⟩ hK hP hD hS hA (fun hs => c_S_isKnown hc_11) (cwV 1 htb (gV tw_518 tw_520 tw_15 tw_73 tw_521) rfl rfl rfl (by decide +kernel) ⟨Nat.le_of_ble_eq_true rfl, Nat.le_of_ble_eq_true rfl⟩) 6 3 rfl rfl rfl rfl rfl hl.1 (Nat.le_of_ble_eq_true rfl) d_S_itemsComeUp_70 ⟨Nat.zero_le _, Nat.zero_le _⟩ (fun H locs hP hD hS => ?_)
            refine lv_if_ne (tgt := 85) hx hb d_S_itemsComeUp_73 (by decide) (fun c_12 => ?_) (fun c_12 => ?_)
            · have hf := ite_f c_12 hf
              refine lv_iconst (v := 0) hx hb d_S_itemsComeUp_85 (by decide) ?_
              cases hf
              exact hret _ _ _ _ (Or.inl rfl) hP hD hS d_S_itemsComeUp_86
            · have hf := ite_t c_12 hf
              refine lv_aload_n hx hb d_S_itemsComeUp_76 rfl (lv_at hl 1 rfl) ?_
              refine lv_iload hx hb d_S_itemsComeUp_77 (lv_at hl 0 rfl) ?_
              obtain ⟨r_13, tk_14, hc_15, hf⟩ := bd2_s hf
              refine ucVi (As := [.int r_8]) (rest := []) ⟨hx, hb, hml, hown, htb⟩ hK hP hD hS hA (fun hs => c_S_takeWhole hc_15) (cwV 1 htb (gV tw_388 tw_390 tw_8 tw_73 tw_391) rfl rfl rfl (by decide +kernel) ⟨Nat.le_of_ble_eq_true rfl, Nat.le_of_ble_eq_true rfl⟩) 6 3 rfl rfl rfl rfl rfl hl.1 (Nat.le_of_ble_eq_true rfl) d_S_itemsComeUp_79 ⟨Nat.zero_le _, Nat.zero_le _⟩ (fun H locs hP hD hS => ?_)
              refine lv_if_ne (tgt := 87) hx hb d_S_itemsComeUp_82 (by decide) (fun c_16 => ?_) (fun c_16 => ?_)
              · have hf := ite_f c_16 hf
                refine lv_aload_n hx hb d_S_itemsComeUp_87 rfl (lv_at hl 1 rfl) ?_
                refine lv_iload hx hb d_S_itemsComeUp_88 (lv_at hl 0 rfl) ?_
                refine lv_iload_n hx hb d_S_itemsComeUp_90 rfl (lv_at hl 3 rfl) ?_
                obtain ⟨kn_17, li_18, pa_19, ins_20, cm_21, hc_22, hf⟩ := bd5_s hf
                refine ucVv (As := [.int r_8, .int x2]) (rest := []) ⟨hx, hb, hml, hown, htb⟩ hK hP hD hS hA (fun hs => c_S_standInLine hc_22) (cwV 2 htb (gV tw_425 tw_427 tw_11 tw_73 tw_428) rfl rfl rfl (by decide +kernel) ⟨Nat.le_of_ble_eq_true rfl, Nat.le_of_ble_eq_true rfl⟩) 6 3 rfl rfl rfl rfl rfl hl.1 (Nat.le_of_ble_eq_true rfl) d_S_itemsComeUp_91 ⟨Nat.zero_le _, Nat.zero_le _⟩ (fun H locs hP hD hS => ?_)
                refine lv_aload_n hx hb d_S_itemsComeUp_94 rfl (lv_at hl 1 rfl) ?_
                refine va_get (D := (dC, dI)) (ci := 3) (v := .ref (h 5)) (C := R_S) (T := T_S) (N := 10) hx hb htb in_S hown hK hP 6 rfl rfl 2 (by decide) (htb _ tw_178) (fun _ h9 => h9) rfl d_S_itemsComeUp_95 ?_
                obtain ⟨r_23, hc_24, hf⟩ := bd1_s hf
                refine ucVi (As := []) (rest := []) ⟨hx, hb, hml, hown, htb⟩ hK hP hD hS hA (fun hs => c_E_mark hc_24) (cwV 0 htb (gV tw_495 tw_496 tw_497 tw_72 tw_498) rfl rfl rfl (by decide +kernel) ⟨Nat.le_of_ble_eq_true rfl, Nat.le_of_ble_eq_true rfl⟩) 5 1 rfl rfl rfl rfl rfl hl.1 (Nat.le_of_ble_eq_true rfl) d_S_itemsComeUp_98 ⟨Nat.zero_le _, Nat.zero_le _⟩ (fun H locs hP hD hS => ?_)
                refine lv_iconst (v := 2) hx hb d_S_itemsComeUp_101 (by decide) ?_
                refine lv_icmp_ne (tgt := 115) hx hb d_S_itemsComeUp_102 (by decide) (fun c_25 => ?_) (fun c_25 => ?_)
                · have hf := ite_f c_25 hf
                  exact hj_115 dr es of od pl hd tk_14 kn_17 li_18 pa_19 ins_20 cm_21 x1 x2 x3 _ _ _ hf hP hD hS (lv_sub hl [1, 2, 3, 4] rfl)
                · have hf := ite_t c_25 hf
                  refine lv_aload_n hx hb d_S_itemsComeUp_105 rfl (lv_at hl 1 rfl) ?_
                  refine va_get (D := (dC, dI)) (ci := 3) (v := .ref (h 11)) (C := R_S) (T := T_S) (N := 10) hx hb htb in_S hown hK hP 6 rfl rfl 7 (by decide) (htb _ tw_183) (fun _ h9 => h9) rfl d_S_itemsComeUp_106 ?_
                  refine lv_iload_n hx hb d_S_itemsComeUp_109 rfl (lv_at hl 2 rfl) ?_
                  refine lv_dup2_11 hx hb d_S_itemsComeUp_110 rfl rfl ?_
                  obtain ⟨c_26, hf⟩ := gd_s hf
                  refine va_iald (i := x1) hx hb hK hP 11 0 rfl rfl c_26 d_S_itemsComeUp_111 ?_
                  refine lv_iconst (v := 1) hx hb d_S_itemsComeUp_112 (by decide) ?_
                  refine lv_iadd hx hb d_S_itemsComeUp_113 ?_
                  obtain ⟨c_27, hf⟩ := gd_s hf
                  refine va_iast (i := x1) (x := (ins_20 (Int32.toNatClampNeg x1)) + ((1 : Int32))) hx hb hK hP hD hS 11 0 rfl rfl c_27 d_S_itemsComeUp_114 (fun H locs hP hD hS => ?_)
                  obtain ⟨ins_28, eins_28, hf⟩ := lt1_s hf
                  have hP : va_P (dC, dI) clAll (wC h cI cL NW bk sz wd mb gB gI gN iN dr es of od pl hd tk_14 kn_17 li_18 pa_19 ins_28 cm_21 fd hr) H := eins_28 ▸ hP
                  have hD : va_D A (wC h cI cL NW bk sz wd mb gB gI gN iN dr es of od pl hd tk_14 kn_17 li_18 pa_19 ins_28 cm_21 fd hr) := eins_28 ▸ hD
                  exact hj_115 dr es of od pl hd tk_14 kn_17 li_18 pa_19 ins_28 cm_21 x1 x2 x3 _ _ _ hf hP hD hS (lv_sub hl [1, 2, 3, 4] rfl)
              · have hf := ite_t c_16 hf
                refine lv_iconst (v := 0) hx hb d_S_itemsComeUp_85 (by decide) ?_
                cases hf
                exact hret _ _ _ _ (Or.inl rfl) hP hD hS d_S_itemsComeUp_86
  unfold f_S_itemsComeUp at hf
  refine lv_iload_n hx hb d_S_itemsComeUp_0 rfl (lv_at hl 1 rfl) ?_
  refine lv_if_lt (tgt := 13) hx hb d_S_itemsComeUp_1 (by decide) (fun c_1 => ?_) (fun c_1 => ?_)
  · have hf := ite_t c_1 hf
    refine lv_iconst (v := 0) hx hb d_S_itemsComeUp_13 (by decide) ?_
    cases hf
    exact hret _ _ _ _ (Or.inl rfl) hP hD hS d_S_itemsComeUp_14
  · have hf := ite_f c_1 hf
    refine lv_iload_n hx hb d_S_itemsComeUp_4 rfl (lv_at hl 1 rfl) ?_
    refine lv_aload_n hx hb d_S_itemsComeUp_5 rfl (lv_at hl 0 rfl) ?_
    refine va_get (D := (dC, dI)) (ci := 3) (v := .ref (h 9)) (C := R_S) (T := T_S) (N := 10) hx hb htb in_S hown hK hP 6 rfl rfl 5 (by decide) (htb _ tw_181) (fun _ h9 => h9) rfl d_S_itemsComeUp_6 ?_
    refine va_alen (v := (4096 : Int32)) hx hb hK hP 9 0 rfl rfl rfl d_S_itemsComeUp_9 ?_
    refine lv_icmp_lt (tgt := 15) hx hb d_S_itemsComeUp_10 (by decide) (fun c_2 => ?_) (fun c_2 => ?_)
    · have hf := ite_t c_2 hf
      refine lv_aload_n hx hb d_S_itemsComeUp_15 rfl (lv_at hl 0 rfl) ?_
      refine va_get (D := (dC, dI)) (ci := 3) (v := .ref (h 9)) (C := R_S) (T := T_S) (N := 10) hx hb htb in_S hown hK hP 6 rfl rfl 5 (by decide) (htb _ tw_181) (fun _ h9 => h9) rfl d_S_itemsComeUp_16 ?_
      refine lv_iload_n hx hb d_S_itemsComeUp_19 rfl (lv_at hl 1 rfl) ?_
      obtain ⟨c_3, hf⟩ := gd_s hf
      refine va_iald (i := a1) hx hb hK hP 9 0 rfl rfl c_3 d_S_itemsComeUp_20 ?_
      obtain ⟨v2_4, ev2_4, hf⟩ := lt1_s hf
      refine lv_eqi ev2_4 ?_
      refine lv_istore_n (lv' := [(2, .int v2_4), (0, .ref (h 6)), (1, .int a1)]) hx hb d_S_itemsComeUp_21 rfl hl (by decide) rfl (fun ls hl => ?_)
      refine lv_aload_n hx hb d_S_itemsComeUp_22 rfl (lv_at hl 1 rfl) ?_
      refine va_get (D := (dC, dI)) (ci := 3) (v := .ref (h 5)) (C := R_S) (T := T_S) (N := 10) hx hb htb in_S hown hK hP 6 rfl rfl 2 (by decide) (htb _ tw_178) (fun _ h9 => h9) rfl d_S_itemsComeUp_23 ?_
      refine lv_iload_n hx hb d_S_itemsComeUp_26 rfl (lv_at hl 0 rfl) ?_
      obtain ⟨dr_5, es_6, of_7, od_8, pl_9, hd_10, hc_11, hf⟩ := bd6_s hf
      refine ucVv (As := [.int v2_4]) (rest := []) ⟨hx, hb, hml, hown, htb⟩ hK hP hD hS hA (fun hs => c_E_start hc_11) (cwV 1 htb (gV tw_433 tw_434 tw_435 tw_72 tw_436) rfl rfl rfl (by decide +kernel) ⟨Nat.le_of_ble_eq_true rfl, Nat.le_of_ble_eq_true rfl⟩) 5 1 rfl rfl rfl rfl rfl hl.1 (Nat.le_of_ble_eq_true rfl) d_S_itemsComeUp_27 ⟨Nat.zero_le _, Nat.zero_le _⟩ (fun H locs hP hD hS => ?_)
      refine lv_iconst (v := 0) hx hb d_S_itemsComeUp_30 (by decide) ?_
      refine lv_istore_n (lv' := [(3, .int ((0 : Int32))), (2, .int v2_4), (0, .ref (h 6)), (1, .int a1)]) hx hb d_S_itemsComeUp_31 rfl hl (by decide) rfl (fun ls hl => ?_)
      exact hj_32 N dr_5 es_6 of_7 od_8 pl_9 hd_10 tk kn li pa ins cm a1 v2_4 ((0 : Int32)) _ _ _ hf hP hD hS (lv_sub hl [2, 3, 1, 0] rfl)
    · have hf := ite_f c_2 hf
      refine lv_iconst (v := 0) hx hb d_S_itemsComeUp_13 (by decide) ?_
      cases hf
      exact hret _ _ _ _ (Or.inl rfl) hP hD hS d_S_itemsComeUp_14
set_option maxHeartbeats 4000000 in
set_option maxRecDepth 100000 in
theorem c_S_treeFault {l : Launch} {dC : Nat → ClassId} {dI : Nat → Nat → Nat} {N : Nat} {h : Nat → Nat} {cI : ClassId} {cL : ClassId} {NW : Nat} {bk : Int32} {sz : Int32} {wd : Nat → Int64} {mb : Nat → Int32} {gB : Int32} {gI : Int32} {gN : Int32} {iN : Int32} {dr : Int32} {es : Int64} {of : Int64} {od : Int32} {pl : Int64} {hd : Int64} {tk : Nat → Int32} {kn : Nat → Int32} {li : Nat → Int32} {pa : Nat → Int32} {ins : Nat → Int32} {cm : Int32} {fd : Int32} {hr : Int32} {hs : Nat} {r : Int32} {dr' : Int32} {es' : Int64} {of' : Int64} {od' : Int32} {pl' : Int64} {hd' : Int64} {tk' : Nat → Int32} {kn' : Nat → Int32} {li' : Nat → Int32} {pa' : Nat → Int32} {ins' : Nat → Int32} {cm' : Int32} (hf : f_S_treeFault N NW bk sz wd mb gI iN dr es of od pl hd tk kn li pa ins cm = some (r, dr', es', of', od', pl', hd', tk', kn', li', pa', ins', cm')) : Met l y_S_treeFault ws_S_treeFault { frames := 4, cells := 0, slots := 0, locals := 109 } (PcU (dC, dI) clAll [(cI, .int), (cL, .long)] (wC h cI cL NW bk sz wd mb gB gI gN iN dr es of od pl hd tk kn li pa ins cm fd hr) hs [.ref (h 6)]) (QUi (dC, dI) clAll [(cI, .int), (cL, .long)] (wC h cI cL NW bk sz wd mb gB gI gN iN dr es of od pl hd tk kn li pa ins cm fd hr) (wC h cI cL NW bk sz wd mb gB gI gN iN dr' es' of' od' pl' hd' tk' kn' li' pa' ins' cm' fd hr) hs r) 0 0 (va_A (wC h cI cL NW bk sz wd mb gB gI gN iN dr es of od pl hd tk kn li pa ins cm fd hr) hs) := by
  refine mUi (cc := b_S_treeFault) (maxL := 2) (by decide) rfl (Nat.le_of_ble_eq_true rfl) ?_
  intro p e s m args below meth c Q hx hb hml hts hown A hA hK hP hD hS hret ls hl
  have htb : ∀ w ∈ TB, w.before args s = true := fun w h => hts w (List.mem_cons_of_mem _ h)
  have hl : lv_has ls 2 [(0, .ref (h 6))] := hl
  have hj_56 : ∀ (k_56 : Nat) (dr : Int32) (es : Int64) (of : Int64) (od : Int32) (pl : Int64) (hd : Int64) (tk : Nat → Int32) (kn : Nat → Int32) (li : Nat → Int32) (pa : Nat → Int32) (ins : Nat → Int32) (cm : Int32) (x1 : Int32) (H : Heap) (locs : List Loc) (ls : Array Slot), f_S_treeFault_56 N NW bk sz wd mb gI iN k_56 dr es of od pl hd tk kn li pa ins cm x1 = some (r, dr', es', of', od', pl', hd', tk', kn', li', pa', ins', cm') → va_P (dC, dI) clAll (wC h cI cL NW bk sz wd mb gB gI gN iN dr es of od pl hd tk kn li pa ins cm fd hr) H → va_D A (wC h cI cL NW bk sz wd mb gB gI gN iN dr es of od pl hd tk kn li pa ins cm fd hr) → va_S A s.heap H locs → lv_has ls 2 [(0, .ref (h 6)), (1, .int x1)] → W p l e (headSpec ws_S_treeFault { frames := 4, cells := 0, slots := 0, locals := 109 }).room s m args below meth c H locs 0 0 Q (F0 m 56 ls []) := by
    intro k_56
    induction k_56 with
    | zero => intro _ _ _ _ _ _ _ _ _ _ _ _ _ _ _ _ hf; exact absurd hf (by simp [f_S_treeFault_56])
    | succ k_56 ih_56 =>
      intro dr es of od pl hd tk kn li pa ins cm x1 H locs ls hf hP hD hS hl
      rw [f_S_treeFault_56] at hf
      refine lv_iload_n hx hb d_S_treeFault_56 rfl (lv_at hl 1 rfl) ?_
      refine lv_aload_n hx hb d_S_treeFault_57 rfl (lv_at hl 0 rfl) ?_
      refine va_get (D := (dC, dI)) (ci := 3) (v := .int cm) (C := R_S) (T := T_S) (N := 10) hx hb htb in_S hown hK hP 6 rfl rfl 8 (by decide) (htb _ tw_184) (fun _ h9 => h9) rfl d_S_treeFault_58 ?_
      refine lv_icmp_ge (tgt := 129) hx hb d_S_treeFault_61 (by decide) (fun c_1 => ?_) (fun c_1 => ?_)
      · have hf := ite_t c_1 hf
        refine lv_iconst (v := 0) hx hb d_S_treeFault_129 (by decide) ?_
        cases hf
        exact hret _ _ _ _ hP hD hS d_S_treeFault_130
      · have hf := ite_f c_1 hf
        refine lv_iload_n hx hb d_S_treeFault_64 rfl (lv_at hl 1 rfl) ?_
        refine lv_aload_n hx hb d_S_treeFault_65 rfl (lv_at hl 0 rfl) ?_
        refine va_get (D := (dC, dI)) (ci := 3) (v := .ref (h 9)) (C := R_S) (T := T_S) (N := 10) hx hb htb in_S hown hK hP 6 rfl rfl 5 (by decide) (htb _ tw_181) (fun _ h9 => h9) rfl d_S_treeFault_66 ?_
        refine va_alen (v := (4096 : Int32)) hx hb hK hP 9 0 rfl rfl rfl d_S_treeFault_69 ?_
        refine lv_icmp_ge (tgt := 129) hx hb d_S_treeFault_70 (by decide) (fun c_2 => ?_) (fun c_2 => ?_)
        · have hf := ite_t c_2 hf
          refine lv_iconst (v := 0) hx hb d_S_treeFault_129 (by decide) ?_
          cases hf
          exact hret _ _ _ _ hP hD hS d_S_treeFault_130
        · have hf := ite_f c_2 hf
          refine lv_aload_n hx hb d_S_treeFault_73 rfl (lv_at hl 0 rfl) ?_
          refine va_get (D := (dC, dI)) (ci := 3) (v := .ref (h 3)) (C := R_S) (T := T_S) (N := 10) hx hb htb in_S hown hK hP 6 rfl rfl 1 (by decide) (htb _ tw_177) (fun _ h9 => h9) rfl d_S_treeFault_74 ?_
          refine lv_aload_n hx hb d_S_treeFault_77 rfl (lv_at hl 0 rfl) ?_
          refine va_get (D := (dC, dI)) (ci := 3) (v := .ref (h 9)) (C := R_S) (T := T_S) (N := 10) hx hb htb in_S hown hK hP 6 rfl rfl 5 (by decide) (htb _ tw_181) (fun _ h9 => h9) rfl d_S_treeFault_78 ?_
          refine lv_iload_n hx hb d_S_treeFault_81 rfl (lv_at hl 1 rfl) ?_
          obtain ⟨c_3, hf⟩ := gd_s hf
          refine va_iald (i := x1) hx hb hK hP 9 0 rfl rfl c_3 d_S_treeFault_82 ?_
          obtain ⟨r_4, hc_5, hf⟩ := bd1_s hf
          refine ucVi (As := [.int (li (Int32.toNatClampNeg x1))]) (rest := []) ⟨hx, hb, hml, hown, htb⟩ hK hP hD hS hA (fun hs => c_L_typeOf hc_5) (cwV 1 htb (gV tw_378 tw_379 tw_380 tw_71 tw_381) rfl rfl rfl (by decide +kernel) ⟨Nat.le_of_ble_eq_true rfl, Nat.le_of_ble_eq_true rfl⟩) 3 2 rfl rfl rfl rfl rfl hl.1 (Nat.le_of_ble_eq_true rfl) d_S_treeFault_83 ⟨Nat.zero_le _, Nat.zero_le _⟩ (fun H locs hP hD hS => ?_)
          refine lv_sipush (v := 16384) hx hb d_S_treeFault_86 (by decide) ?_
          refine lv_icmp_ne (tgt := 123) hx hb d_S_treeFault_89 (by decide) (fun c_6 => ?_) (fun c_6 => ?_)
          · have hf := ite_f c_6 hf
            obtain ⟨v1_7, ev1_7, hf⟩ := lt1_s hf
            refine lv_iinc (v := v1_7) (lv' := [(1, .int v1_7), (0, .ref (h 6))]) hx hb d_S_treeFault_123 hl (k := 1) rfl (by rw [← ev1_7]; rfl) (by decide) rfl (fun ls hl => ?_)
            refine lv_goto (tgt := 56) hx hb d_S_treeFault_126 (by decide) ?_
            exact ih_56 dr es of od pl hd tk kn li pa ins cm v1_7 _ _ _ hf hP hD hS (lv_sub hl [1, 0] rfl)
          · have hf := ite_t c_6 hf
            refine lv_aload_n hx hb d_S_treeFault_92 rfl (lv_at hl 0 rfl) ?_
            refine lv_aload_n hx hb d_S_treeFault_93 rfl (lv_at hl 0 rfl) ?_
            refine va_get (D := (dC, dI)) (ci := 3) (v := .ref (h 9)) (C := R_S) (T := T_S) (N := 10) hx hb htb in_S hown hK hP 6 rfl rfl 5 (by decide) (htb _ tw_181) (fun _ h9 => h9) rfl d_S_treeFault_94 ?_
            refine lv_iload_n hx hb d_S_treeFault_97 rfl (lv_at hl 1 rfl) ?_
            obtain ⟨c_8, hf⟩ := gd_s hf
            refine va_iald (i := x1) hx hb hK hP 9 0 rfl rfl c_8 d_S_treeFault_98 ?_
            refine lv_aload_n hx hb d_S_treeFault_99 rfl (lv_at hl 0 rfl) ?_
            refine va_get (D := (dC, dI)) (ci := 3) (v := .ref (h 10)) (C := R_S) (T := T_S) (N := 10) hx hb htb in_S hown hK hP 6 rfl rfl 6 (by decide) (htb _ tw_182) (fun _ h9 => h9) rfl d_S_treeFault_100 ?_
            refine lv_iload_n hx hb d_S_treeFault_103 rfl (lv_at hl 1 rfl) ?_
            obtain ⟨c_9, hf⟩ := gd_s hf
            refine va_iald (i := x1) hx hb hK hP 10 0 rfl rfl c_9 d_S_treeFault_104 ?_
            obtain ⟨r_10, dr_11, es_12, of_13, od_14, pl_15, hd_16, hc_17, hf⟩ := bd7_s hf
            refine ucVi (As := [.int (li (Int32.toNatClampNeg x1)), .int (pa (Int32.toNatClampNeg x1))]) (rest := []) ⟨hx, hb, hml, hown, htb⟩ hK hP hD hS hA (fun hs => c_S_entriesStand hc_17) (cwV 2 htb (gV tw_429 tw_431 tw_12 tw_73 tw_432) rfl rfl rfl (by decide +kernel) ⟨Nat.le_of_ble_eq_true rfl, Nat.le_of_ble_eq_true rfl⟩) 6 3 rfl rfl rfl rfl rfl hl.1 (Nat.le_of_ble_eq_true rfl) d_S_treeFault_105 ⟨Nat.zero_le _, Nat.zero_le _⟩ (fun H locs hP hD hS => ?_)
            refine lv_if_ne (tgt := 113) hx hb d_S_treeFault_108 (by decide) (fun c_18 => ?_) (fun c_18 => ?_)
            · have hf := ite_f c_18 hf
              refine lv_aload_n hx hb d_S_treeFault_113 rfl (lv_at hl 0 rfl) ?_
              refine lv_iload_n hx hb d_S_treeFault_114 rfl (lv_at hl 1 rfl) ?_
              obtain ⟨r_19, dr_20, es_21, of_22, od_23, pl_24, hd_25, tk_26, kn_27, li_28, pa_29, ins_30, cm_31, hc_32, hf⟩ := bd13_s hf
              refine ucVi (As := [.int x1]) (rest := []) ⟨hx, hb, hml, hown, htb⟩ hK hP hD hS hA (fun hs => c_S_itemsComeUp hc_32) (cwV 1 htb (gV tw_510 tw_512 tw_14 tw_73 tw_513) rfl rfl rfl (by decide +kernel) ⟨Nat.le_of_ble_eq_true rfl, Nat.le_of_ble_eq_true rfl⟩) 6 3 rfl rfl rfl rfl rfl hl.1 (Nat.le_of_ble_eq_true rfl) d_S_treeFault_115 ⟨Nat.zero_le _, Nat.zero_le _⟩ (fun H locs hP hD hS => ?_)
              refine lv_if_ne (tgt := 123) hx hb d_S_treeFault_118 (by decide) (fun c_33 => ?_) (fun c_33 => ?_)
              · have hf := ite_f c_33 hf
                obtain ⟨v1_34, ev1_34, hf⟩ := lt1_s hf
                refine lv_iinc (v := v1_34) (lv' := [(1, .int v1_34), (0, .ref (h 6))]) hx hb d_S_treeFault_123 hl (k := 1) rfl (by rw [← ev1_34]; rfl) (by decide) rfl (fun ls hl => ?_)
                refine lv_goto (tgt := 56) hx hb d_S_treeFault_126 (by decide) ?_
                exact ih_56 dr_20 es_21 of_22 od_23 pl_24 hd_25 tk_26 kn_27 li_28 pa_29 ins_30 cm_31 v1_34 _ _ _ hf hP hD hS (lv_sub hl [1, 0] rfl)
              · have hf := ite_t c_33 hf
                refine lv_iconst (v := 4) hx hb d_S_treeFault_121 (by decide) ?_
                cases hf
                exact hret _ _ _ _ hP hD hS d_S_treeFault_122
            · have hf := ite_t c_18 hf
              refine lv_iconst (v := 5) hx hb d_S_treeFault_111 (by decide) ?_
              cases hf
              exact hret _ _ _ _ hP hD hS d_S_treeFault_112
  unfold f_S_treeFault at hf
  refine lv_aload_n hx hb d_S_treeFault_0 rfl (lv_at hl 0 rfl) ?_
  refine va_get (D := (dC, dI)) (ci := 3) (v := .ref (h 8)) (C := R_S) (T := T_S) (N := 10) hx hb htb in_S hown hK hP 6 rfl rfl 4 (by decide) (htb _ tw_180) (fun _ h9 => h9) rfl d_S_treeFault_1 ?_
  refine lv_iconst (v := 0) hx hb d_S_treeFault_4 (by decide) ?_
  obtain ⟨kn_1, hc_2, hf⟩ := bd1_s hf
  refine ucSv (As := [.ref (h 8), .int ((0 : Int32))]) (rest := []) ⟨hx, hb, hml, hown, htb⟩ hK hP hD hS hA (fun hs => c_J_fill8 hc_2) (va_cwS 2 htb (gS tw_345 tw_346 tw_75 tw_347) rfl rfl rfl (by decide +kernel) ⟨Nat.le_of_ble_eq_true rfl, Nat.le_of_ble_eq_true rfl⟩) rfl rfl hl.1 (Nat.le_of_ble_eq_true rfl) d_S_treeFault_5 ⟨Nat.zero_le _, Nat.zero_le _⟩ (fun H locs hP hD hS => ?_)
  refine lv_aload_n hx hb d_S_treeFault_8 rfl (lv_at hl 0 rfl) ?_
  refine lv_iconst (v := 0) hx hb d_S_treeFault_9 (by decide) ?_
  refine va_put (D := (dC, dI)) (ci := 3) (v := .int ((0 : Int32))) (ty := .int) (C := R_S) (T := T_S) (N := 10) hx hb htb in_S ty_S tyok_S nm_S hown hK hP hD hS 6 rfl rfl 8 (by decide) (htb _ tw_184) (fun _ h9 => h9) rfl (by decide +kernel) rfl rfl (Nat.le_of_ble_eq_true rfl) d_S_treeFault_10 (fun H locs hP hD hS => ?_)
  have hP : va_P (dC, dI) clAll (wC h cI cL NW bk sz wd mb gB gI gN iN dr es of od pl hd tk kn_1 li pa ins ((0 : Int32)) fd hr) H := hP
  have hD : va_D A (wC h cI cL NW bk sz wd mb gB gI gN iN dr es of od pl hd tk kn_1 li pa ins ((0 : Int32)) fd hr) := hD
  refine lv_aload_n hx hb d_S_treeFault_13 rfl (lv_at hl 0 rfl) ?_
  refine va_get (D := (dC, dI)) (ci := 3) (v := .ref (h 3)) (C := R_S) (T := T_S) (N := 10) hx hb htb in_S hown hK hP 6 rfl rfl 1 (by decide) (htb _ tw_177) (fun _ h9 => h9) rfl d_S_treeFault_14 ?_
  refine lv_iconst (v := 2) hx hb d_S_treeFault_17 (by decide) ?_
  obtain ⟨r_3, hc_4, hf⟩ := bd1_s hf
  refine ucVi (As := [.int ((2 : Int32))]) (rest := []) ⟨hx, hb, hml, hown, htb⟩ hK hP hD hS hA (fun hs => c_L_isUsed hc_4) (cwV 1 htb (gV tw_369 tw_370 tw_371 tw_71 tw_372) rfl rfl rfl (by decide +kernel) ⟨Nat.le_of_ble_eq_true rfl, Nat.le_of_ble_eq_true rfl⟩) 3 2 rfl rfl rfl rfl rfl hl.1 (Nat.le_of_ble_eq_true rfl) d_S_treeFault_18 ⟨Nat.zero_le _, Nat.zero_le _⟩ (fun H locs hP hD hS => ?_)
  refine lv_if_eq (tgt := 46) hx hb d_S_treeFault_21 (by decide) (fun c_5 => ?_) (fun c_5 => ?_)
  · have hf := ite_t c_5 hf
    refine lv_iconst (v := 4) hx hb d_S_treeFault_46 (by decide) ?_
    cases hf
    exact hret _ _ _ _ hP hD hS d_S_treeFault_47
  · have hf := ite_f c_5 hf
    refine lv_aload_n hx hb d_S_treeFault_24 rfl (lv_at hl 0 rfl) ?_
    refine va_get (D := (dC, dI)) (ci := 3) (v := .ref (h 3)) (C := R_S) (T := T_S) (N := 10) hx hb htb in_S hown hK hP 6 rfl rfl 1 (by decide) (htb _ tw_177) (fun _ h9 => h9) rfl d_S_treeFault_25 ?_
    refine lv_iconst (v := 2) hx hb d_S_treeFault_28 (by decide) ?_
    obtain ⟨r_6, hc_7, hf⟩ := bd1_s hf
    refine ucVi (As := [.int ((2 : Int32))]) (rest := []) ⟨hx, hb, hml, hown, htb⟩ hK hP hD hS hA (fun hs => c_L_typeOf hc_7) (cwV 1 htb (gV tw_378 tw_379 tw_380 tw_71 tw_381) rfl rfl rfl (by decide +kernel) ⟨Nat.le_of_ble_eq_true rfl, Nat.le_of_ble_eq_true rfl⟩) 3 2 rfl rfl rfl rfl rfl hl.1 (Nat.le_of_ble_eq_true rfl) d_S_treeFault_29 ⟨Nat.zero_le _, Nat.zero_le _⟩ (fun H locs hP hD hS => ?_)
    refine lv_sipush (v := 16384) hx hb d_S_treeFault_32 (by decide) ?_
    refine lv_icmp_ne (tgt := 46) hx hb d_S_treeFault_35 (by decide) (fun c_8 => ?_) (fun c_8 => ?_)
    · have hf := ite_f c_8 hf
      refine lv_iconst (v := 4) hx hb d_S_treeFault_46 (by decide) ?_
      cases hf
      exact hret _ _ _ _ hP hD hS d_S_treeFault_47
    · have hf := ite_t c_8 hf
      refine lv_aload_n hx hb d_S_treeFault_38 rfl (lv_at hl 0 rfl) ?_
      refine lv_iconst (v := 2) hx hb d_S_treeFault_39 (by decide) ?_
      obtain ⟨r_9, tk_10, hc_11, hf⟩ := bd2_s hf
      refine ucVi (As := [.int ((2 : Int32))]) (rest := []) ⟨hx, hb, hml, hown, htb⟩ hK hP hD hS hA (fun hs => c_S_takeWhole hc_11) (cwV 1 htb (gV tw_388 tw_390 tw_8 tw_73 tw_391) rfl rfl rfl (by decide +kernel) ⟨Nat.le_of_ble_eq_true rfl, Nat.le_of_ble_eq_true rfl⟩) 6 3 rfl rfl rfl rfl rfl hl.1 (Nat.le_of_ble_eq_true rfl) d_S_treeFault_40 ⟨Nat.zero_le _, Nat.zero_le _⟩ (fun H locs hP hD hS => ?_)
      refine lv_if_ne (tgt := 48) hx hb d_S_treeFault_43 (by decide) (fun c_12 => ?_) (fun c_12 => ?_)
      · have hf := ite_f c_12 hf
        refine lv_aload_n hx hb d_S_treeFault_48 rfl (lv_at hl 0 rfl) ?_
        refine lv_iconst (v := 2) hx hb d_S_treeFault_49 (by decide) ?_
        refine lv_iconst (v := 2) hx hb d_S_treeFault_50 (by decide) ?_
        obtain ⟨kn_13, li_14, pa_15, ins_16, cm_17, hc_18, hf⟩ := bd5_s hf
        refine ucVv (As := [.int ((2 : Int32)), .int ((2 : Int32))]) (rest := []) ⟨hx, hb, hml, hown, htb⟩ hK hP hD hS hA (fun hs => c_S_standInLine hc_18) (cwV 2 htb (gV tw_425 tw_427 tw_11 tw_73 tw_428) rfl rfl rfl (by decide +kernel) ⟨Nat.le_of_ble_eq_true rfl, Nat.le_of_ble_eq_true rfl⟩) 6 3 rfl rfl rfl rfl rfl hl.1 (Nat.le_of_ble_eq_true rfl) d_S_treeFault_51 ⟨Nat.zero_le _, Nat.zero_le _⟩ (fun H locs hP hD hS => ?_)
        refine lv_iconst (v := 0) hx hb d_S_treeFault_54 (by decide) ?_
        refine lv_istore_n (lv' := [(1, .int ((0 : Int32))), (0, .ref (h 6))]) hx hb d_S_treeFault_55 rfl hl (by decide) rfl (fun ls hl => ?_)
        exact hj_56 N dr es of od pl hd tk_10 kn_13 li_14 pa_15 ins_16 cm_17 ((0 : Int32)) _ _ _ hf hP hD hS (lv_sub hl [1, 0] rfl)
      · have hf := ite_t c_12 hf
        refine lv_iconst (v := 4) hx hb d_S_treeFault_46 (by decide) ?_
        cases hf
        exact hret _ _ _ _ hP hD hS d_S_treeFault_47
set_option maxHeartbeats 4000000 in
set_option maxRecDepth 100000 in
theorem c_S_linksStand {l : Launch} {dC : Nat → ClassId} {dI : Nat → Nat → Nat} {N : Nat} {h : Nat → Nat} {cI : ClassId} {cL : ClassId} {NW : Nat} {bk : Int32} {sz : Int32} {wd : Nat → Int64} {mb : Nat → Int32} {gB : Int32} {gI : Int32} {gN : Int32} {iN : Int32} {dr : Int32} {es : Int64} {of : Int64} {od : Int32} {pl : Int64} {hd : Int64} {tk : Nat → Int32} {kn : Nat → Int32} {li : Nat → Int32} {pa : Nat → Int32} {ins : Nat → Int32} {cm : Int32} {fd : Int32} {hr : Int32} {hs : Nat} {r : Int32} (hf : f_S_linksStand N NW sz wd mb gI li ins cm = some (r)) : Met l y_S_linksStand ws_S_linksStand { frames := 2, cells := 0, slots := 0, locals := 50 } (PcU (dC, dI) clAll [(cI, .int), (cL, .long)] (wC h cI cL NW bk sz wd mb gB gI gN iN dr es of od pl hd tk kn li pa ins cm fd hr) hs [.ref (h 6)]) (QUi (dC, dI) clAll [(cI, .int), (cL, .long)] (wC h cI cL NW bk sz wd mb gB gI gN iN dr es of od pl hd tk kn li pa ins cm fd hr) (wC h cI cL NW bk sz wd mb gB gI gN iN dr es of od pl hd tk kn li pa ins cm fd hr) hs r) 0 0 (va_A (wC h cI cL NW bk sz wd mb gB gI gN iN dr es of od pl hd tk kn li pa ins cm fd hr) hs) := by
  refine mUz (cc := b_S_linksStand) (maxL := 3) (by decide) rfl (Nat.le_of_ble_eq_true rfl) ?_
  intro p e s m args below meth c Q hx hb hml hts hown A hA hK hP hD hS hret ls hl
  have htb : ∀ w ∈ TB, w.before args s = true := fun w h => hts w (List.mem_cons_of_mem _ h)
  have hl : lv_has ls 3 [(0, .ref (h 6))] := hl
  have hj_2 : ∀ (k_2 : Nat) (x1 : Int32) (H : Heap) (locs : List Loc) (ls : Array Slot), f_S_linksStand_2 N NW sz wd mb gI li ins cm k_2 x1 = some (r) → va_P (dC, dI) clAll (wC h cI cL NW bk sz wd mb gB gI gN iN dr es of od pl hd tk kn li pa ins cm fd hr) H → va_D A (wC h cI cL NW bk sz wd mb gB gI gN iN dr es of od pl hd tk kn li pa ins cm fd hr) → va_S A s.heap H locs → lv_has ls 3 [(0, .ref (h 6)), (1, .int x1)] → W p l e (headSpec ws_S_linksStand { frames := 2, cells := 0, slots := 0, locals := 50 }).room s m args below meth c H locs 0 0 Q (F0 m 2 ls []) := by
    intro k_2
    induction k_2 with
    | zero => intro _ _ _ _ hf; exact absurd hf (by simp [f_S_linksStand_2])
    | succ k_2 ih_2 =>
      have hj_50 : ∀ (x1 : Int32) (s0 : Int32) (H : Heap) (locs : List Loc) (ls : Array Slot), f_S_linksStand_50 N NW sz wd mb gI li ins cm (f_S_linksStand_2 N NW sz wd mb gI li ins cm k_2) x1 s0 = some (r) → va_P (dC, dI) clAll (wC h cI cL NW bk sz wd mb gB gI gN iN dr es of od pl hd tk kn li pa ins cm fd hr) H → va_D A (wC h cI cL NW bk sz wd mb gB gI gN iN dr es of od pl hd tk kn li pa ins cm fd hr) → va_S A s.heap H locs → lv_has ls 3 [(0, .ref (h 6)), (1, .int x1)] → W p l e (headSpec ws_S_linksStand { frames := 2, cells := 0, slots := 0, locals := 50 }).room s m args below meth c H locs 0 0 Q (F0 m 50 ls [.int s0]) := by
        intro x1 s0 H locs ls hf hP hD hS hl
        unfold f_S_linksStand_50 at hf
        refine lv_istore_n (lv' := [(2, .int s0), (0, .ref (h 6)), (1, .int x1)]) hx hb d_S_linksStand_50 rfl hl (by decide) rfl (fun ls hl => ?_)
        refine lv_aload_n hx hb d_S_linksStand_51 rfl (lv_at hl 1 rfl) ?_
        refine va_get (D := (dC, dI)) (ci := 3) (v := .ref (h 3)) (C := R_S) (T := T_S) (N := 10) hx hb htb in_S hown hK hP 6 rfl rfl 1 (by decide) (htb _ tw_177) (fun _ h9 => h9) rfl d_S_linksStand_52 ?_
        refine lv_aload_n hx hb d_S_linksStand_55 rfl (lv_at hl 1 rfl) ?_
        refine va_get (D := (dC, dI)) (ci := 3) (v := .ref (h 9)) (C := R_S) (T := T_S) (N := 10) hx hb htb in_S hown hK hP 6 rfl rfl 5 (by decide) (htb _ tw_181) (fun _ h9 => h9) rfl d_S_linksStand_56 ?_
        refine lv_iload_n hx hb d_S_linksStand_59 rfl (lv_at hl 2 rfl) ?_
        obtain ⟨c_1, hf⟩ := gd_s hf
        refine va_iald (i := x1) hx hb hK hP 9 0 rfl rfl c_1 d_S_linksStand_60 ?_
        refine lv_bipush (v := 26) hx hb d_S_linksStand_61 (by decide) ?_
        refine lv_iconst (v := 2) hx hb d_S_linksStand_63 (by decide) ?_
        obtain ⟨r_2, hc_3, hf⟩ := bd1_s hf
        refine ucVl (As := [.int (li (Int32.toNatClampNeg x1)), .int ((26 : Int32)), .int ((2 : Int32))]) (rest := []) ⟨hx, hb, hml, hown, htb⟩ hK hP hD hS hA (fun hs => c_L_field hc_3) (cwV 3 htb (gV tw_401 tw_402 tw_403 tw_71 tw_404) rfl rfl rfl (by decide +kernel) ⟨Nat.le_of_ble_eq_true rfl, Nat.le_of_ble_eq_true rfl⟩) 3 2 rfl rfl rfl rfl rfl hl.1 (Nat.le_of_ble_eq_true rfl) d_S_linksStand_64 ⟨Nat.zero_le _, Nat.zero_le _⟩ (fun H locs hP hD hS => ?_)
        refine lv_iload_n hx hb d_S_linksStand_67 rfl (lv_at hl 0 rfl) ?_
        refine lv_i2l hx hb d_S_linksStand_68 rfl ?_
        refine lc_eq (tgt := 75) hx hb d_S_linksStand_69 d_S_linksStand_70 (by decide) (fun c_4 => ?_) (fun c_4 => ?_)
        · have hf := ite_t c_4 hf
          obtain ⟨v1_5, ev1_5, hf⟩ := lt1_s hf
          refine lv_iinc (v := v1_5) (lv' := [(1, .int v1_5), (2, .int s0), (0, .ref (h 6))]) hx hb d_S_linksStand_75 hl (k := 2) rfl (by rw [← ev1_5]; rfl) (by decide) rfl (fun ls hl => ?_)
          refine lv_goto (tgt := 2) hx hb d_S_linksStand_78 (by decide) ?_
          exact ih_2 v1_5 _ _ _ hf hP hD hS (lv_sub hl [2, 0] rfl)
        · have hf := ite_f c_4 hf
          refine lv_iconst (v := 0) hx hb d_S_linksStand_73 (by decide) ?_
          cases hf
          exact hret _ _ _ _ (Or.inl rfl) hP hD hS d_S_linksStand_74
      intro x1 H locs ls hf hP hD hS hl
      rw [f_S_linksStand_2] at hf
      refine lv_iload_n hx hb d_S_linksStand_2 rfl (lv_at hl 1 rfl) ?_
      refine lv_aload_n hx hb d_S_linksStand_3 rfl (lv_at hl 0 rfl) ?_
      refine va_get (D := (dC, dI)) (ci := 3) (v := .int cm) (C := R_S) (T := T_S) (N := 10) hx hb htb in_S hown hK hP 6 rfl rfl 8 (by decide) (htb _ tw_184) (fun _ h9 => h9) rfl d_S_linksStand_4 ?_
      refine lv_icmp_ge (tgt := 81) hx hb d_S_linksStand_7 (by decide) (fun c_1 => ?_) (fun c_1 => ?_)
      · have hf := ite_t c_1 hf
        refine lv_iconst (v := 1) hx hb d_S_linksStand_81 (by decide) ?_
        cases hf
        exact hret _ _ _ _ (Or.inr rfl) hP hD hS d_S_linksStand_82
      · have hf := ite_f c_1 hf
        refine lv_iload_n hx hb d_S_linksStand_10 rfl (lv_at hl 1 rfl) ?_
        refine lv_aload_n hx hb d_S_linksStand_11 rfl (lv_at hl 0 rfl) ?_
        refine va_get (D := (dC, dI)) (ci := 3) (v := .ref (h 9)) (C := R_S) (T := T_S) (N := 10) hx hb htb in_S hown hK hP 6 rfl rfl 5 (by decide) (htb _ tw_181) (fun _ h9 => h9) rfl d_S_linksStand_12 ?_
        refine va_alen (v := (4096 : Int32)) hx hb hK hP 9 0 rfl rfl rfl d_S_linksStand_15 ?_
        refine lv_icmp_ge (tgt := 81) hx hb d_S_linksStand_16 (by decide) (fun c_2 => ?_) (fun c_2 => ?_)
        · have hf := ite_t c_2 hf
          refine lv_iconst (v := 1) hx hb d_S_linksStand_81 (by decide) ?_
          cases hf
          exact hret _ _ _ _ (Or.inr rfl) hP hD hS d_S_linksStand_82
        · have hf := ite_f c_2 hf
          refine lv_aload_n hx hb d_S_linksStand_19 rfl (lv_at hl 0 rfl) ?_
          refine va_get (D := (dC, dI)) (ci := 3) (v := .ref (h 3)) (C := R_S) (T := T_S) (N := 10) hx hb htb in_S hown hK hP 6 rfl rfl 1 (by decide) (htb _ tw_177) (fun _ h9 => h9) rfl d_S_linksStand_20 ?_
          refine lv_aload_n hx hb d_S_linksStand_23 rfl (lv_at hl 0 rfl) ?_
          refine va_get (D := (dC, dI)) (ci := 3) (v := .ref (h 9)) (C := R_S) (T := T_S) (N := 10) hx hb htb in_S hown hK hP 6 rfl rfl 5 (by decide) (htb _ tw_181) (fun _ h9 => h9) rfl d_S_linksStand_24 ?_
          refine lv_iload_n hx hb d_S_linksStand_27 rfl (lv_at hl 1 rfl) ?_
          obtain ⟨c_3, hf⟩ := gd_s hf
          refine va_iald (i := x1) hx hb hK hP 9 0 rfl rfl c_3 d_S_linksStand_28 ?_
          obtain ⟨r_4, hc_5, hf⟩ := bd1_s hf
          refine ucVi (As := [.int (li (Int32.toNatClampNeg x1))]) (rest := []) ⟨hx, hb, hml, hown, htb⟩ hK hP hD hS hA (fun hs => c_L_typeOf hc_5) (cwV 1 htb (gV tw_378 tw_379 tw_380 tw_71 tw_381) rfl rfl rfl (by decide +kernel) ⟨Nat.le_of_ble_eq_true rfl, Nat.le_of_ble_eq_true rfl⟩) 3 2 rfl rfl rfl rfl rfl hl.1 (Nat.le_of_ble_eq_true rfl) d_S_linksStand_29 ⟨Nat.zero_le _, Nat.zero_le _⟩ (fun H locs hP hD hS => ?_)
          refine lv_sipush (v := 16384) hx hb d_S_linksStand_32 (by decide) ?_
          refine lv_icmp_ne (tgt := 49) hx hb d_S_linksStand_35 (by decide) (fun c_6 => ?_) (fun c_6 => ?_)
          · have hf := ite_f c_6 hf
            refine lv_iconst (v := 1) hx hb d_S_linksStand_49 (by decide) ?_
            exact hj_50 x1 ((1 : Int32)) _ _ _ hf hP hD hS (lv_sub hl [0, 1] rfl)
          · have hf := ite_t c_6 hf
            refine lv_iconst (v := 2) hx hb d_S_linksStand_38 (by decide) ?_
            refine lv_aload_n hx hb d_S_linksStand_39 rfl (lv_at hl 0 rfl) ?_
            refine va_get (D := (dC, dI)) (ci := 3) (v := .ref (h 11)) (C := R_S) (T := T_S) (N := 10) hx hb htb in_S hown hK hP 6 rfl rfl 7 (by decide) (htb _ tw_183) (fun _ h9 => h9) rfl d_S_linksStand_40 ?_
            refine lv_iload_n hx hb d_S_linksStand_43 rfl (lv_at hl 1 rfl) ?_
            obtain ⟨c_7, hf⟩ := gd_s hf
            refine va_iald (i := x1) hx hb hK hP 11 0 rfl rfl c_7 d_S_linksStand_44 ?_
            refine lv_iadd hx hb d_S_linksStand_45 ?_
            refine lv_goto (tgt := 50) hx hb d_S_linksStand_46 (by decide) ?_
            exact hj_50 x1 (((2 : Int32)) + (ins (Int32.toNatClampNeg x1))) _ _ _ hf hP hD hS (lv_sub hl [0, 1] rfl)
  unfold f_S_linksStand at hf
  refine lv_iconst (v := 0) hx hb d_S_linksStand_0 (by decide) ?_
  refine lv_istore_n (lv' := [(1, .int ((0 : Int32))), (0, .ref (h 6))]) hx hb d_S_linksStand_1 rfl hl (by decide) rfl (fun ls hl => ?_)
  exact hj_2 N ((0 : Int32)) _ _ _ hf hP hD hS (lv_sub hl [1, 0] rfl)
set_option maxHeartbeats 4000000 in
set_option maxRecDepth 100000 in
theorem c_S_isBlank {l : Launch} {dC : Nat → ClassId} {dI : Nat → Nat → Nat} {N : Nat} {h : Nat → Nat} {cI : ClassId} {cL : ClassId} {NW : Nat} {bk : Int32} {sz : Int32} {wd : Nat → Int64} {mb : Nat → Int32} {gB : Int32} {gI : Int32} {gN : Int32} {iN : Int32} {dr : Int32} {es : Int64} {of : Int64} {od : Int32} {pl : Int64} {hd : Int64} {tk : Nat → Int32} {kn : Nat → Int32} {li : Nat → Int32} {pa : Nat → Int32} {ins : Nat → Int32} {cm : Int32} {fd : Int32} {hr : Int32} {hs : Nat} {a1 : Int32} {r : Int32} (hf : f_S_isBlank N NW sz wd mb gI a1 = some (r)) : Met l y_S_isBlank ws_S_isBlank { frames := 1, cells := 0, slots := 0, locals := 27 } (PcU (dC, dI) clAll [(cI, .int), (cL, .long)] (wC h cI cL NW bk sz wd mb gB gI gN iN dr es of od pl hd tk kn li pa ins cm fd hr) hs [.ref (h 6), .int a1]) (QUi (dC, dI) clAll [(cI, .int), (cL, .long)] (wC h cI cL NW bk sz wd mb gB gI gN iN dr es of od pl hd tk kn li pa ins cm fd hr) (wC h cI cL NW bk sz wd mb gB gI gN iN dr es of od pl hd tk kn li pa ins cm fd hr) hs r) 0 0 (va_A (wC h cI cL NW bk sz wd mb gB gI gN iN dr es of od pl hd tk kn li pa ins cm fd hr) hs) := by
  refine mUz (cc := b_S_isBlank) (maxL := 5) (by decide) rfl (Nat.le_of_ble_eq_true rfl) ?_
  intro p e s m args below meth c Q hx hb hml hts hown A hA hK hP hD hS hret ls hl
  have htb : ∀ w ∈ TB, w.before args s = true := fun w h => hts w (List.mem_cons_of_mem _ h)
  have hl : lv_has ls 5 [(0, .ref (h 6)), (1, .int a1)] := hl
  have hj_12 : ∀ (k_12 : Nat) (x2 : Int64) (x4 : Int32) (H : Heap) (locs : List Loc) (ls : Array Slot), f_S_isBlank_12 N NW sz wd mb gI k_12 x2 x4 = some (r) → va_P (dC, dI) clAll (wC h cI cL NW bk sz wd mb gB gI gN iN dr es of od pl hd tk kn li pa ins cm fd hr) H → va_D A (wC h cI cL NW bk sz wd mb gB gI gN iN dr es of od pl hd tk kn li pa ins cm fd hr) → va_S A s.heap H locs → lv_has ls 5 [(0, .ref (h 6)), (2, .long x2), (4, .int x4)] → W p l e (headSpec ws_S_isBlank { frames := 1, cells := 0, slots := 0, locals := 27 }).room s m args below meth c H locs 0 0 Q (F0 m 12 ls []) := by
    intro k_12
    induction k_12 with
    | zero => intro _ _ _ _ _ hf; exact absurd hf (by simp [f_S_isBlank_12])
    | succ k_12 ih_12 =>
      intro x2 x4 H locs ls hf hP hD hS hl
      rw [f_S_isBlank_12] at hf
      refine lv_iload hx hb d_S_isBlank_12 (lv_at hl 2 rfl) ?_
      refine lv_sipush (v := 128) hx hb d_S_isBlank_14 (by decide) ?_
      refine lv_icmp_ge (tgt := 47) hx hb d_S_isBlank_17 (by decide) (fun c_1 => ?_) (fun c_1 => ?_)
      · have hf := ite_t c_1 hf
        refine lv_iconst (v := 1) hx hb d_S_isBlank_47 (by decide) ?_
        cases hf
        exact hret _ _ _ _ (Or.inr rfl) hP hD hS d_S_isBlank_48
      · have hf := ite_f c_1 hf
        refine lv_aload_n hx hb d_S_isBlank_20 rfl (lv_at hl 0 rfl) ?_
        refine va_get (D := (dC, dI)) (ci := 3) (v := .ref (h 1)) (C := R_S) (T := T_S) (N := 10) hx hb htb in_S hown hK hP 6 rfl rfl 0 (by decide) (htb _ tw_176) (fun _ h9 => h9) rfl d_S_isBlank_21 ?_
        refine lv_lload_n hx hb d_S_isBlank_24 rfl (lv_at hl 1 rfl) ?_
        refine lv_iload hx hb d_S_isBlank_25 (lv_at hl 2 rfl) ?_
        refine lv_i2l hx hb d_S_isBlank_27 rfl ?_
        refine lv_ladd hx hb d_S_isBlank_28 ?_
        refine lv_bipush (v := 8) hx hb d_S_isBlank_29 (by decide) ?_
        obtain ⟨r_2, hc_3, hf⟩ := bd1_s hf
        refine ucVl (As := [.long (x2 + (Int32.toInt64 x4)), .int ((8 : Int32))]) (rest := []) ⟨hx, hb, hml, hown, htb⟩ hK hP hD hS hA (fun hs => c_D_number hc_3) (cwV 2 htb (gV tw_308 tw_264 tw_265 tw_69 tw_266) rfl rfl rfl (by decide +kernel) ⟨Nat.le_of_ble_eq_true rfl, Nat.le_of_ble_eq_true rfl⟩) 1 0 rfl rfl rfl rfl rfl hl.1 (Nat.le_of_ble_eq_true rfl) d_S_isBlank_31 ⟨Nat.zero_le _, Nat.zero_le _⟩ (fun H locs hP hD hS => ?_)
        refine lv_lconst (v := 0) hx hb d_S_isBlank_34 (by decide) ?_
        refine lc_eq (tgt := 41) hx hb d_S_isBlank_35 d_S_isBlank_36 (by decide) (fun c_4 => ?_) (fun c_4 => ?_)
        · have hf := ite_t c_4 hf
          obtain ⟨v4_5, ev4_5, hf⟩ := lt1_s hf
          refine lv_iinc (v := v4_5) (lv' := [(4, .int v4_5), (0, .ref (h 6)), (2, .long x2)]) hx hb d_S_isBlank_41 hl (k := 2) rfl (by rw [← ev4_5]; rfl) (by decide) rfl (fun ls hl => ?_)
          refine lv_goto (tgt := 12) hx hb d_S_isBlank_44 (by decide) ?_
          exact ih_12 x2 v4_5 _ _ _ hf hP hD hS (lv_sub hl [1, 2, 0] rfl)
        · have hf := ite_f c_4 hf
          refine lv_iconst (v := 0) hx hb d_S_isBlank_39 (by decide) ?_
          cases hf
          exact hret _ _ _ _ (Or.inl rfl) hP hD hS d_S_isBlank_40
  unfold f_S_isBlank at hf
  refine lv_aload_n hx hb d_S_isBlank_0 rfl (lv_at hl 0 rfl) ?_
  refine va_get (D := (dC, dI)) (ci := 3) (v := .ref (h 3)) (C := R_S) (T := T_S) (N := 10) hx hb htb in_S hown hK hP 6 rfl rfl 1 (by decide) (htb _ tw_177) (fun _ h9 => h9) rfl d_S_isBlank_1 ?_
  refine lv_iload_n hx hb d_S_isBlank_4 rfl (lv_at hl 1 rfl) ?_
  obtain ⟨r_1, hc_2, hf⟩ := bd1_s hf
  refine ucVl (As := [.int a1]) (rest := []) ⟨hx, hb, hml, hown, htb⟩ hK hP hD hS hA (fun hs => c_L_inodePlace hc_2) (cwV 1 htb (gV tw_409 tw_383 tw_384 tw_71 tw_385) rfl rfl rfl (by decide +kernel) ⟨Nat.le_of_ble_eq_true rfl, Nat.le_of_ble_eq_true rfl⟩) 3 2 rfl rfl rfl rfl rfl hl.1 (Nat.le_of_ble_eq_true rfl) d_S_isBlank_5 ⟨Nat.zero_le _, Nat.zero_le _⟩ (fun H locs hP hD hS => ?_)
  refine lv_lstore_n (lv' := [(2, .long r_1), (0, .ref (h 6)), (1, .int a1)]) hx hb d_S_isBlank_8 rfl hl (by decide) rfl (fun ls hl => ?_)
  refine lv_iconst (v := 0) hx hb d_S_isBlank_9 (by decide) ?_
  refine lv_istore (lv' := [(4, .int ((0 : Int32))), (2, .long r_1), (0, .ref (h 6)), (1, .int a1)]) hx hb d_S_isBlank_10 hl (by decide) rfl (fun ls hl => ?_)
  exact hj_12 N r_1 ((0 : Int32)) _ _ _ hf hP hD hS (lv_sub hl [2, 1, 0] rfl)
set_option maxHeartbeats 4000000 in
set_option maxRecDepth 100000 in
theorem c_S_inodesStand {l : Launch} {dC : Nat → ClassId} {dI : Nat → Nat → Nat} {N : Nat} {h : Nat → Nat} {cI : ClassId} {cL : ClassId} {NW : Nat} {bk : Int32} {sz : Int32} {wd : Nat → Int64} {mb : Nat → Int32} {gB : Int32} {gI : Int32} {gN : Int32} {iN : Int32} {dr : Int32} {es : Int64} {of : Int64} {od : Int32} {pl : Int64} {hd : Int64} {tk : Nat → Int32} {kn : Nat → Int32} {li : Nat → Int32} {pa : Nat → Int32} {ins : Nat → Int32} {cm : Int32} {fd : Int32} {hr : Int32} {hs : Nat} {r : Int32} (hf : f_S_inodesStand N NW sz wd mb gI iN kn = some (r)) : Met l y_S_inodesStand ws_S_inodesStand { frames := 2, cells := 0, slots := 0, locals := 51 } (PcU (dC, dI) clAll [(cI, .int), (cL, .long)] (wC h cI cL NW bk sz wd mb gB gI gN iN dr es of od pl hd tk kn li pa ins cm fd hr) hs [.ref (h 6)]) (QUi (dC, dI) clAll [(cI, .int), (cL, .long)] (wC h cI cL NW bk sz wd mb gB gI gN iN dr es of od pl hd tk kn li pa ins cm fd hr) (wC h cI cL NW bk sz wd mb gB gI gN iN dr es of od pl hd tk kn li pa ins cm fd hr) hs r) 0 0 (va_A (wC h cI cL NW bk sz wd mb gB gI gN iN dr es of od pl hd tk kn li pa ins cm fd hr) hs) := by
  refine mUz (cc := b_S_inodesStand) (maxL := 3) (by decide) rfl (Nat.le_of_ble_eq_true rfl) ?_
  intro p e s m args below meth c Q hx hb hml hts hown A hA hK hP hD hS hret ls hl
  have htb : ∀ w ∈ TB, w.before args s = true := fun w h => hts w (List.mem_cons_of_mem _ h)
  have hl : lv_has ls 3 [(0, .ref (h 6))] := hl
  have hj_2 : ∀ (k_2 : Nat) (x1 : Int32) (H : Heap) (locs : List Loc) (ls : Array Slot), f_S_inodesStand_2 N NW sz wd mb gI iN kn k_2 x1 = some (r) → va_P (dC, dI) clAll (wC h cI cL NW bk sz wd mb gB gI gN iN dr es of od pl hd tk kn li pa ins cm fd hr) H → va_D A (wC h cI cL NW bk sz wd mb gB gI gN iN dr es of od pl hd tk kn li pa ins cm fd hr) → va_S A s.heap H locs → lv_has ls 3 [(0, .ref (h 6)), (1, .int x1)] → W p l e (headSpec ws_S_inodesStand { frames := 2, cells := 0, slots := 0, locals := 51 }).room s m args below meth c H locs 0 0 Q (F0 m 2 ls []) := by
    intro k_2
    induction k_2 with
    | zero => intro _ _ _ _ hf; exact absurd hf (by simp [f_S_inodesStand_2])
    | succ k_2 ih_2 =>
      have hj_42 : ∀ (x1 : Int32) (x2 : Int32) (s0 : Int32) (s1 : Int32) (H : Heap) (locs : List Loc) (ls : Array Slot), f_S_inodesStand_42 N NW sz wd mb gI iN kn (f_S_inodesStand_2 N NW sz wd mb gI iN kn k_2) x1 x2 s0 s1 = some (r) → va_P (dC, dI) clAll (wC h cI cL NW bk sz wd mb gB gI gN iN dr es of od pl hd tk kn li pa ins cm fd hr) H → va_D A (wC h cI cL NW bk sz wd mb gB gI gN iN dr es of od pl hd tk kn li pa ins cm fd hr) → va_S A s.heap H locs → lv_has ls 3 [(0, .ref (h 6)), (1, .int x1), (2, .int x2)] → W p l e (headSpec ws_S_inodesStand { frames := 2, cells := 0, slots := 0, locals := 51 }).room s m args below meth c H locs 0 0 Q (F0 m 42 ls [.int s1, .int s0]) := by
        intro x1 x2 s0 s1 H locs ls hf hP hD hS hl
        unfold f_S_inodesStand_42 at hf
        refine lv_icmp_eq (tgt := 47) hx hb d_S_inodesStand_42 (by decide) (fun c_1 => ?_) (fun c_1 => ?_)
        · have hf := ite_t c_1 hf
          refine lv_iload_n hx hb d_S_inodesStand_47 rfl (lv_at hl 2 rfl) ?_
          refine lv_if_ne (tgt := 61) hx hb d_S_inodesStand_48 (by decide) (fun c_2 => ?_) (fun c_2 => ?_)
          · have hf := ite_f c_2 hf
            obtain ⟨v1_3, ev1_3, hf⟩ := lt1_s hf
            refine lv_iinc (v := v1_3) (lv' := [(1, .int v1_3), (0, .ref (h 6)), (2, .int x2)]) hx hb d_S_inodesStand_61 hl (k := 1) rfl (by rw [← ev1_3]; rfl) (by decide) rfl (fun ls hl => ?_)
            refine lv_goto (tgt := 2) hx hb d_S_inodesStand_64 (by decide) ?_
            exact ih_2 v1_3 _ _ _ hf hP hD hS (lv_sub hl [1, 0] rfl)
          · have hf := ite_t c_2 hf
            refine lv_aload_n hx hb d_S_inodesStand_51 rfl (lv_at hl 0 rfl) ?_
            refine lv_iload_n hx hb d_S_inodesStand_52 rfl (lv_at hl 1 rfl) ?_
            obtain ⟨r_4, hc_5, hf⟩ := bd1_s hf
            refine ucVi (As := [.int x1]) (rest := []) ⟨hx, hb, hml, hown, htb⟩ hK hP hD hS hA (fun hs => c_S_isBlank hc_5) (cwV 1 htb (gV tw_534 tw_536 tw_19 tw_73 tw_537) rfl rfl rfl (by decide +kernel) ⟨Nat.le_of_ble_eq_true rfl, Nat.le_of_ble_eq_true rfl⟩) 6 3 rfl rfl rfl rfl rfl hl.1 (Nat.le_of_ble_eq_true rfl) d_S_inodesStand_53 ⟨Nat.zero_le _, Nat.zero_le _⟩ (fun H locs hP hD hS => ?_)
            refine lv_if_ne (tgt := 61) hx hb d_S_inodesStand_56 (by decide) (fun c_6 => ?_) (fun c_6 => ?_)
            · have hf := ite_f c_6 hf
              obtain ⟨v1_7, ev1_7, hf⟩ := lt1_s hf
              refine lv_iinc (v := v1_7) (lv' := [(1, .int v1_7), (0, .ref (h 6)), (2, .int x2)]) hx hb d_S_inodesStand_61 hl (k := 1) rfl (by rw [← ev1_7]; rfl) (by decide) rfl (fun ls hl => ?_)
              refine lv_goto (tgt := 2) hx hb d_S_inodesStand_64 (by decide) ?_
              exact ih_2 v1_7 _ _ _ hf hP hD hS (lv_sub hl [1, 0] rfl)
            · have hf := ite_t c_6 hf
              refine lv_iconst (v := 0) hx hb d_S_inodesStand_59 (by decide) ?_
              cases hf
              exact hret _ _ _ _ (Or.inl rfl) hP hD hS d_S_inodesStand_60
        · have hf := ite_f c_1 hf
          refine lv_iconst (v := 0) hx hb d_S_inodesStand_45 (by decide) ?_
          cases hf
          exact hret _ _ _ _ (Or.inl rfl) hP hD hS d_S_inodesStand_46
      have hj_37 : ∀ (x1 : Int32) (x2 : Int32) (s0 : Int32) (H : Heap) (locs : List Loc) (ls : Array Slot), f_S_inodesStand_37 N NW sz wd mb gI iN kn (f_S_inodesStand_2 N NW sz wd mb gI iN kn k_2) x1 x2 s0 = some (r) → va_P (dC, dI) clAll (wC h cI cL NW bk sz wd mb gB gI gN iN dr es of od pl hd tk kn li pa ins cm fd hr) H → va_D A (wC h cI cL NW bk sz wd mb gB gI gN iN dr es of od pl hd tk kn li pa ins cm fd hr) → va_S A s.heap H locs → lv_has ls 3 [(0, .ref (h 6)), (1, .int x1), (2, .int x2)] → W p l e (headSpec ws_S_inodesStand { frames := 2, cells := 0, slots := 0, locals := 51 }).room s m args below meth c H locs 0 0 Q (F0 m 37 ls [.int s0]) := by
        intro x1 x2 s0 H locs ls hf hP hD hS hl
        unfold f_S_inodesStand_37 at hf
        refine lv_iconst (v := 1) hx hb d_S_inodesStand_37 (by decide) ?_
        refine lv_goto (tgt := 42) hx hb d_S_inodesStand_38 (by decide) ?_
        exact hj_42 x1 x2 s0 ((1 : Int32)) _ _ _ hf hP hD hS (lv_sub hl [0, 1, 2] rfl)
      intro x1 H locs ls hf hP hD hS hl
      rw [f_S_inodesStand_2] at hf
      refine lv_iload_n hx hb d_S_inodesStand_2 rfl (lv_at hl 1 rfl) ?_
      refine lv_aload_n hx hb d_S_inodesStand_3 rfl (lv_at hl 0 rfl) ?_
      refine va_get (D := (dC, dI)) (ci := 3) (v := .ref (h 3)) (C := R_S) (T := T_S) (N := 10) hx hb htb in_S hown hK hP 6 rfl rfl 1 (by decide) (htb _ tw_177) (fun _ h9 => h9) rfl d_S_inodesStand_4 ?_
      obtain ⟨r_1, hc_2, hf⟩ := bd1_s hf
      refine ucVi (As := []) (rest := [.int x1]) ⟨hx, hb, hml, hown, htb⟩ hK hP hD hS hA (fun hs => c_L_inodes hc_2) (cwV 0 htb (gV tw_300 tw_301 tw_302 tw_71 tw_303) rfl rfl rfl (by decide +kernel) ⟨Nat.le_of_ble_eq_true rfl, Nat.le_of_ble_eq_true rfl⟩) 3 2 rfl rfl rfl rfl rfl hl.1 (Nat.le_of_ble_eq_true rfl) d_S_inodesStand_7 ⟨Nat.zero_le _, Nat.zero_le _⟩ (fun H locs hP hD hS => ?_)
      refine lv_icmp_gt (tgt := 67) hx hb d_S_inodesStand_10 (by decide) (fun c_3 => ?_) (fun c_3 => ?_)
      · have hf := ite_t c_3 hf
        refine lv_iconst (v := 1) hx hb d_S_inodesStand_67 (by decide) ?_
        cases hf
        exact hret _ _ _ _ (Or.inr rfl) hP hD hS d_S_inodesStand_68
      · have hf := ite_f c_3 hf
        refine lv_aload_n hx hb d_S_inodesStand_13 rfl (lv_at hl 0 rfl) ?_
        refine lv_iload_n hx hb d_S_inodesStand_14 rfl (lv_at hl 1 rfl) ?_
        obtain ⟨r_4, hc_5, hf⟩ := bd1_s hf
        refine ucVi (As := [.int x1]) (rest := []) ⟨hx, hb, hml, hown, htb⟩ hK hP hD hS hA (fun hs => c_S_isKnown hc_5) (cwV 1 htb (gV tw_518 tw_520 tw_15 tw_73 tw_521) rfl rfl rfl (by decide +kernel) ⟨Nat.le_of_ble_eq_true rfl, Nat.le_of_ble_eq_true rfl⟩) 6 3 rfl rfl rfl rfl rfl hl.1 (Nat.le_of_ble_eq_true rfl) d_S_inodesStand_15 ⟨Nat.zero_le _, Nat.zero_le _⟩ (fun H locs hP hD hS => ?_)
        refine lv_istore_n (lv' := [(2, .int r_4), (0, .ref (h 6)), (1, .int x1)]) hx hb d_S_inodesStand_18 rfl hl (by decide) rfl (fun ls hl => ?_)
        refine lv_aload_n hx hb d_S_inodesStand_19 rfl (lv_at hl 1 rfl) ?_
        refine va_get (D := (dC, dI)) (ci := 3) (v := .ref (h 3)) (C := R_S) (T := T_S) (N := 10) hx hb htb in_S hown hK hP 6 rfl rfl 1 (by decide) (htb _ tw_177) (fun _ h9 => h9) rfl d_S_inodesStand_20 ?_
        refine lv_iload_n hx hb d_S_inodesStand_23 rfl (lv_at hl 2 rfl) ?_
        obtain ⟨r_6, hc_7, hf⟩ := bd1_s hf
        refine ucVi (As := [.int x1]) (rest := []) ⟨hx, hb, hml, hown, htb⟩ hK hP hD hS hA (fun hs => c_L_isUsed hc_7) (cwV 1 htb (gV tw_369 tw_370 tw_371 tw_71 tw_372) rfl rfl rfl (by decide +kernel) ⟨Nat.le_of_ble_eq_true rfl, Nat.le_of_ble_eq_true rfl⟩) 3 2 rfl rfl rfl rfl rfl hl.1 (Nat.le_of_ble_eq_true rfl) d_S_inodesStand_24 ⟨Nat.zero_le _, Nat.zero_le _⟩ (fun H locs hP hD hS => ?_)
        refine lv_iload_n hx hb d_S_inodesStand_27 rfl (lv_at hl 0 rfl) ?_
        refine lv_if_ne (tgt := 37) hx hb d_S_inodesStand_28 (by decide) (fun c_8 => ?_) (fun c_8 => ?_)
        · have hf := ite_f c_8 hf
          exact hj_37 x1 r_4 r_6 _ _ _ hf hP hD hS (lv_sub hl [1, 2, 0] rfl)
        · have hf := ite_t c_8 hf
          refine lv_iload_n hx hb d_S_inodesStand_31 rfl (lv_at hl 2 rfl) ?_
          refine lv_bipush (v := 11) hx hb d_S_inodesStand_32 (by decide) ?_
          refine lv_icmp_gt (tgt := 41) hx hb d_S_inodesStand_34 (by decide) (fun c_9 => ?_) (fun c_9 => ?_)
          · have hf := ite_t c_9 hf
            refine lv_iconst (v := 0) hx hb d_S_inodesStand_41 (by decide) ?_
            exact hj_42 x1 r_4 r_6 ((0 : Int32)) _ _ _ hf hP hD hS (lv_sub hl [1, 2, 0] rfl)
          · have hf := ite_f c_9 hf
            exact hj_37 x1 r_4 r_6 _ _ _ hf hP hD hS (lv_sub hl [1, 2, 0] rfl)
  unfold f_S_inodesStand at hf
  refine lv_iconst (v := 1) hx hb d_S_inodesStand_0 (by decide) ?_
  refine lv_istore_n (lv' := [(1, .int ((1 : Int32))), (0, .ref (h 6))]) hx hb d_S_inodesStand_1 rfl hl (by decide) rfl (fun ls hl => ?_)
  exact hj_2 N ((1 : Int32)) _ _ _ hf hP hD hS (lv_sub hl [1, 0] rfl)
set_option maxHeartbeats 4000000 in
set_option maxRecDepth 100000 in
theorem c_S_isTaken {l : Launch} {dC : Nat → ClassId} {dI : Nat → Nat → Nat} {h : Nat → Nat} {cI : ClassId} {cL : ClassId} {NW : Nat} {bk : Int32} {sz : Int32} {wd : Nat → Int64} {mb : Nat → Int32} {gB : Int32} {gI : Int32} {gN : Int32} {iN : Int32} {dr : Int32} {es : Int64} {of : Int64} {od : Int32} {pl : Int64} {hd : Int64} {tk : Nat → Int32} {kn : Nat → Int32} {li : Nat → Int32} {pa : Nat → Int32} {ins : Nat → Int32} {cm : Int32} {fd : Int32} {hr : Int32} {hs : Nat} {a1 : Int32} {r : Int32} (hf : f_S_isTaken NW tk a1 = some (r)) : Met l y_S_isTaken ws_S_isTaken { frames := 0, cells := 0, slots := 0, locals := 0 } (PcU (dC, dI) clAll [(cI, .int), (cL, .long)] (wC h cI cL NW bk sz wd mb gB gI gN iN dr es of od pl hd tk kn li pa ins cm fd hr) hs [.ref (h 6), .int a1]) (QUi (dC, dI) clAll [(cI, .int), (cL, .long)] (wC h cI cL NW bk sz wd mb gB gI gN iN dr es of od pl hd tk kn li pa ins cm fd hr) (wC h cI cL NW bk sz wd mb gB gI gN iN dr es of od pl hd tk kn li pa ins cm fd hr) hs r) 0 0 (va_A (wC h cI cL NW bk sz wd mb gB gI gN iN dr es of od pl hd tk kn li pa ins cm fd hr) hs) := by
  refine mUz (cc := b_S_isTaken) (maxL := 2) (by decide) rfl (Nat.le_of_ble_eq_true rfl) ?_
  intro p e s m args below meth c Q hx hb hml hts hown A hA hK hP hD hS hret ls hl
  have htb : ∀ w ∈ TB, w.before args s = true := fun w h => hts w (List.mem_cons_of_mem _ h)
  have hl : lv_has ls 2 [(0, .ref (h 6)), (1, .int a1)] := hl
  unfold f_S_isTaken at hf
  refine lv_iload_n hx hb d_S_isTaken_0 rfl (lv_at hl 1 rfl) ?_
  refine lv_if_lt (tgt := 26) hx hb d_S_isTaken_1 (by decide) (fun c_1 => ?_) (fun c_1 => ?_)
  · have hf := ite_t c_1 hf
    refine lv_iconst (v := 0) hx hb d_S_isTaken_26 (by decide) ?_
    cases hf
    exact hret _ _ _ _ (Or.inl rfl) hP hD hS d_S_isTaken_27
  · have hf := ite_f c_1 hf
    refine lv_iload_n hx hb d_S_isTaken_4 rfl (lv_at hl 1 rfl) ?_
    refine lv_aload_n hx hb d_S_isTaken_5 rfl (lv_at hl 0 rfl) ?_
    refine va_get (D := (dC, dI)) (ci := 3) (v := .ref (h 7)) (C := R_S) (T := T_S) (N := 10) hx hb htb in_S hown hK hP 6 rfl rfl 3 (by decide) (htb _ tw_179) (fun _ h9 => h9) rfl d_S_isTaken_6 ?_
    refine va_alen (v := (512 : Int32)) hx hb hK hP 7 0 rfl rfl rfl d_S_isTaken_9 ?_
    refine lv_icmp_ge (tgt := 26) hx hb d_S_isTaken_10 (by decide) (fun c_2 => ?_) (fun c_2 => ?_)
    · have hf := ite_t c_2 hf
      refine lv_iconst (v := 0) hx hb d_S_isTaken_26 (by decide) ?_
      cases hf
      exact hret _ _ _ _ (Or.inl rfl) hP hD hS d_S_isTaken_27
    · have hf := ite_f c_2 hf
      refine lv_aload_n hx hb d_S_isTaken_13 rfl (lv_at hl 0 rfl) ?_
      refine va_get (D := (dC, dI)) (ci := 3) (v := .ref (h 7)) (C := R_S) (T := T_S) (N := 10) hx hb htb in_S hown hK hP 6 rfl rfl 3 (by decide) (htb _ tw_179) (fun _ h9 => h9) rfl d_S_isTaken_14 ?_
      refine lv_iload_n hx hb d_S_isTaken_17 rfl (lv_at hl 1 rfl) ?_
      obtain ⟨c_3, hf⟩ := gd_s hf
      refine va_iald (i := a1) hx hb hK hP 7 0 rfl rfl c_3 d_S_isTaken_18 ?_
      refine lv_if_eq (tgt := 26) hx hb d_S_isTaken_19 (by decide) (fun c_4 => ?_) (fun c_4 => ?_)
      · have hf := ite_t c_4 hf
        refine lv_iconst (v := 0) hx hb d_S_isTaken_26 (by decide) ?_
        cases hf
        exact hret _ _ _ _ (Or.inl rfl) hP hD hS d_S_isTaken_27
      · have hf := ite_f c_4 hf
        refine lv_iconst (v := 1) hx hb d_S_isTaken_22 (by decide) ?_
        refine lv_goto (tgt := 27) hx hb d_S_isTaken_23 (by decide) ?_
        cases hf
        exact hret _ _ _ _ (Or.inr rfl) hP hD hS d_S_isTaken_27
set_option maxHeartbeats 4000000 in
set_option maxRecDepth 100000 in
theorem c_S_blockMapStands {l : Launch} {dC : Nat → ClassId} {dI : Nat → Nat → Nat} {N : Nat} {h : Nat → Nat} {cI : ClassId} {cL : ClassId} {NW : Nat} {bk : Int32} {sz : Int32} {wd : Nat → Int64} {mb : Nat → Int32} {gB : Int32} {gI : Int32} {gN : Int32} {iN : Int32} {dr : Int32} {es : Int64} {of : Int64} {od : Int32} {pl : Int64} {hd : Int64} {tk : Nat → Int32} {kn : Nat → Int32} {li : Nat → Int32} {pa : Nat → Int32} {ins : Nat → Int32} {cm : Int32} {fd : Int32} {hr : Int32} {hs : Nat} {a1 : Int32} {r : Int32} (hf : f_S_blockMapStands N NW bk sz wd mb gB tk a1 = some (r)) : Met l y_S_blockMapStands ws_S_blockMapStands { frames := 2, cells := 0, slots := 0, locals := 51 } (PcU (dC, dI) clAll [(cI, .int), (cL, .long)] (wC h cI cL NW bk sz wd mb gB gI gN iN dr es of od pl hd tk kn li pa ins cm fd hr) hs [.ref (h 6), .int a1]) (QUi (dC, dI) clAll [(cI, .int), (cL, .long)] (wC h cI cL NW bk sz wd mb gB gI gN iN dr es of od pl hd tk kn li pa ins cm fd hr) (wC h cI cL NW bk sz wd mb gB gI gN iN dr es of od pl hd tk kn li pa ins cm fd hr) hs r) 0 0 (va_A (wC h cI cL NW bk sz wd mb gB gI gN iN dr es of od pl hd tk kn li pa ins cm fd hr) hs) := by
  refine mUz (cc := b_S_blockMapStands) (maxL := 4) (by decide) rfl (Nat.le_of_ble_eq_true rfl) ?_
  intro p e s m args below meth c Q hx hb hml hts hown A hA hK hP hD hS hret ls hl
  have htb : ∀ w ∈ TB, w.before args s = true := fun w h => hts w (List.mem_cons_of_mem _ h)
  have hl : lv_has ls 4 [(0, .ref (h 6)), (1, .int a1)] := hl
  have hj_11 : ∀ (k_11 : Nat) (x1 : Int32) (x2 : Int32) (x3 : Int32) (H : Heap) (locs : List Loc) (ls : Array Slot), f_S_blockMapStands_11 N NW bk sz wd mb gB tk k_11 x1 x2 x3 = some (r) → va_P (dC, dI) clAll (wC h cI cL NW bk sz wd mb gB gI gN iN dr es of od pl hd tk kn li pa ins cm fd hr) H → va_D A (wC h cI cL NW bk sz wd mb gB gI gN iN dr es of od pl hd tk kn li pa ins cm fd hr) → va_S A s.heap H locs → lv_has ls 4 [(0, .ref (h 6)), (1, .int x1), (2, .int x2), (3, .int x3)] → W p l e (headSpec ws_S_blockMapStands { frames := 2, cells := 0, slots := 0, locals := 51 }).room s m args below meth c H locs 0 0 Q (F0 m 11 ls []) := by
    intro k_11
    induction k_11 with
    | zero => intro _ _ _ _ _ _ hf; exact absurd hf (by simp [f_S_blockMapStands_11])
    | succ k_11 ih_11 =>
      intro x1 x2 x3 H locs ls hf hP hD hS hl
      rw [f_S_blockMapStands_11] at hf
      refine lv_iload_n hx hb d_S_blockMapStands_11 rfl (lv_at hl 3 rfl) ?_
      refine lv_iload_n hx hb d_S_blockMapStands_12 rfl (lv_at hl 2 rfl) ?_
      refine lv_icmp_ge (tgt := 57) hx hb d_S_blockMapStands_13 (by decide) (fun c_1 => ?_) (fun c_1 => ?_)
      · have hf := ite_t c_1 hf
        refine lv_aload_n hx hb d_S_blockMapStands_57 rfl (lv_at hl 0 rfl) ?_
        refine va_get (D := (dC, dI)) (ci := 3) (v := .ref (h 1)) (C := R_S) (T := T_S) (N := 10) hx hb htb in_S hown hK hP 6 rfl rfl 0 (by decide) (htb _ tw_176) (fun _ h9 => h9) rfl d_S_blockMapStands_58 ?_
        refine lv_aload_n hx hb d_S_blockMapStands_61 rfl (lv_at hl 0 rfl) ?_
        refine va_get (D := (dC, dI)) (ci := 3) (v := .ref (h 3)) (C := R_S) (T := T_S) (N := 10) hx hb htb in_S hown hK hP 6 rfl rfl 1 (by decide) (htb _ tw_177) (fun _ h9 => h9) rfl d_S_blockMapStands_62 ?_
        refine lv_iload_n hx hb d_S_blockMapStands_65 rfl (lv_at hl 1 rfl) ?_
        obtain ⟨r_2, hc_3, hf⟩ := bd1_s hf
        refine ucVl (As := [.int x1]) (rest := [.ref (h 1)]) ⟨hx, hb, hml, hown, htb⟩ hK hP hD hS hA (fun hs => c_L_blockMap hc_3) (cwV 1 htb (gV tw_546 tw_547 tw_548 tw_71 tw_549) rfl rfl rfl (by decide +kernel) ⟨Nat.le_of_ble_eq_true rfl, Nat.le_of_ble_eq_true rfl⟩) 3 2 rfl rfl rfl rfl rfl hl.1 (Nat.le_of_ble_eq_true rfl) d_S_blockMapStands_66 ⟨Nat.zero_le _, Nat.zero_le _⟩ (fun H locs hP hD hS => ?_)
        refine lv_iload_n hx hb d_S_blockMapStands_69 rfl (lv_at hl 2 rfl) ?_
        obtain ⟨r_4, hc_5, hf⟩ := bd1_s hf
        refine ucVi (As := [.long r_2, .int x2]) (rest := []) ⟨hx, hb, hml, hown, htb⟩ hK hP hD hS hA (fun hs => c_D_onesFrom hc_5) (cwV 2 htb (gV tw_558 tw_559 tw_560 tw_69 tw_561) rfl rfl rfl (by decide +kernel) ⟨Nat.le_of_ble_eq_true rfl, Nat.le_of_ble_eq_true rfl⟩) 1 0 rfl rfl rfl rfl rfl hl.1 (Nat.le_of_ble_eq_true rfl) d_S_blockMapStands_70 ⟨Nat.zero_le _, Nat.zero_le _⟩ (fun H locs hP hD hS => ?_)
        obtain ⟨c_6, hf⟩ := gp_s hf
        cases hf
        exact hret _ _ _ _ c_6 hP hD hS d_S_blockMapStands_73
      · have hf := ite_f c_1 hf
        refine lv_aload_n hx hb d_S_blockMapStands_16 rfl (lv_at hl 0 rfl) ?_
        refine va_get (D := (dC, dI)) (ci := 3) (v := .ref (h 1)) (C := R_S) (T := T_S) (N := 10) hx hb htb in_S hown hK hP 6 rfl rfl 0 (by decide) (htb _ tw_176) (fun _ h9 => h9) rfl d_S_blockMapStands_17 ?_
        refine lv_aload_n hx hb d_S_blockMapStands_20 rfl (lv_at hl 0 rfl) ?_
        refine va_get (D := (dC, dI)) (ci := 3) (v := .ref (h 3)) (C := R_S) (T := T_S) (N := 10) hx hb htb in_S hown hK hP 6 rfl rfl 1 (by decide) (htb _ tw_177) (fun _ h9 => h9) rfl d_S_blockMapStands_21 ?_
        refine lv_iload_n hx hb d_S_blockMapStands_24 rfl (lv_at hl 1 rfl) ?_
        obtain ⟨r_7, hc_8, hf⟩ := bd1_s hf
        refine ucVl (As := [.int x1]) (rest := [.ref (h 1)]) ⟨hx, hb, hml, hown, htb⟩ hK hP hD hS hA (fun hs => c_L_blockMap hc_8) (cwV 1 htb (gV tw_546 tw_547 tw_548 tw_71 tw_549) rfl rfl rfl (by decide +kernel) ⟨Nat.le_of_ble_eq_true rfl, Nat.le_of_ble_eq_true rfl⟩) 3 2 rfl rfl rfl rfl rfl hl.1 (Nat.le_of_ble_eq_true rfl) d_S_blockMapStands_25 ⟨Nat.zero_le _, Nat.zero_le _⟩ (fun H locs hP hD hS => ?_)
        refine lv_iload_n hx hb d_S_blockMapStands_28 rfl (lv_at hl 3 rfl) ?_
        obtain ⟨r_9, hc_10, hf⟩ := bd1_s hf
        refine ucVi (As := [.long r_7, .int x3]) (rest := []) ⟨hx, hb, hml, hown, htb⟩ hK hP hD hS hA (fun hs => c_D_bit hc_10) (cwV 2 htb (gV tw_550 tw_551 tw_552 tw_69 tw_553) rfl rfl rfl (by decide +kernel) ⟨Nat.le_of_ble_eq_true rfl, Nat.le_of_ble_eq_true rfl⟩) 1 0 rfl rfl rfl rfl rfl hl.1 (Nat.le_of_ble_eq_true rfl) d_S_blockMapStands_29 ⟨Nat.zero_le _, Nat.zero_le _⟩ (fun H locs hP hD hS => ?_)
        refine lv_aload_n hx hb d_S_blockMapStands_32 rfl (lv_at hl 0 rfl) ?_
        refine lv_aload_n hx hb d_S_blockMapStands_33 rfl (lv_at hl 0 rfl) ?_
        refine va_get (D := (dC, dI)) (ci := 3) (v := .ref (h 3)) (C := R_S) (T := T_S) (N := 10) hx hb htb in_S hown hK hP 6 rfl rfl 1 (by decide) (htb _ tw_177) (fun _ h9 => h9) rfl d_S_blockMapStands_34 ?_
        refine lv_iload_n hx hb d_S_blockMapStands_37 rfl (lv_at hl 1 rfl) ?_
        obtain ⟨r_11, hc_12, hf⟩ := bd1_s hf
        refine ucVi (As := [.int x1]) (rest := [.ref (h 6), .int r_9]) ⟨hx, hb, hml, hown, htb⟩ hK hP hD hS hA (fun hs => c_L_firstBlock hc_12) (cwV 1 htb (gV tw_340 tw_331 tw_332 tw_71 tw_333) rfl rfl rfl (by decide +kernel) ⟨Nat.le_of_ble_eq_true rfl, Nat.le_of_ble_eq_true rfl⟩) 3 2 rfl rfl rfl rfl rfl hl.1 (Nat.le_of_ble_eq_true rfl) d_S_blockMapStands_38 ⟨Nat.zero_le _, Nat.zero_le _⟩ (fun H locs hP hD hS => ?_)
        refine lv_iload_n hx hb d_S_blockMapStands_41 rfl (lv_at hl 3 rfl) ?_
        refine lv_iadd hx hb d_S_blockMapStands_42 ?_
        obtain ⟨r_13, hc_14, hf⟩ := bd1_s hf
        refine ucVi (As := [.int (r_11 + x3)]) (rest := [.int r_9]) ⟨hx, hb, hml, hown, htb⟩ hK hP hD hS hA (fun hs => c_S_isTaken hc_14) (cwV 1 htb (gV tw_554 tw_556 tw_22 tw_73 tw_557) rfl rfl rfl (by decide +kernel) ⟨Nat.le_of_ble_eq_true rfl, Nat.le_of_ble_eq_true rfl⟩) 6 3 rfl rfl rfl rfl rfl hl.1 (Nat.le_of_ble_eq_true rfl) d_S_blockMapStands_43 ⟨Nat.zero_le _, Nat.zero_le _⟩ (fun H locs hP hD hS => ?_)
        refine lv_icmp_eq (tgt := 51) hx hb d_S_blockMapStands_46 (by decide) (fun c_15 => ?_) (fun c_15 => ?_)
        · have hf := ite_t c_15 hf
          obtain ⟨v3_16, ev3_16, hf⟩ := lt1_s hf
          refine lv_iinc (v := v3_16) (lv' := [(3, .int v3_16), (0, .ref (h 6)), (1, .int x1), (2, .int x2)]) hx hb d_S_blockMapStands_51 hl (k := 3) rfl (by rw [← ev3_16]; rfl) (by decide) rfl (fun ls hl => ?_)
          refine lv_goto (tgt := 11) hx hb d_S_blockMapStands_54 (by decide) ?_
          exact ih_11 x1 x2 v3_16 _ _ _ hf hP hD hS (lv_sub hl [1, 2, 3, 0] rfl)
        · have hf := ite_f c_15 hf
          refine lv_iconst (v := 0) hx hb d_S_blockMapStands_49 (by decide) ?_
          cases hf
          exact hret _ _ _ _ (Or.inl rfl) hP hD hS d_S_blockMapStands_50
  unfold f_S_blockMapStands at hf
  refine lv_aload_n hx hb d_S_blockMapStands_0 rfl (lv_at hl 0 rfl) ?_
  refine va_get (D := (dC, dI)) (ci := 3) (v := .ref (h 3)) (C := R_S) (T := T_S) (N := 10) hx hb htb in_S hown hK hP 6 rfl rfl 1 (by decide) (htb _ tw_177) (fun _ h9 => h9) rfl d_S_blockMapStands_1 ?_
  refine lv_iload_n hx hb d_S_blockMapStands_4 rfl (lv_at hl 1 rfl) ?_
  obtain ⟨r_1, hc_2, hf⟩ := bd1_s hf
  refine ucVi (As := [.int a1]) (rest := []) ⟨hx, hb, hml, hown, htb⟩ hK hP hD hS hA (fun hs => c_L_blocksOf hc_2) (cwV 1 htb (gV tw_326 tw_327 tw_328 tw_71 tw_329) rfl rfl rfl (by decide +kernel) ⟨Nat.le_of_ble_eq_true rfl, Nat.le_of_ble_eq_true rfl⟩) 3 2 rfl rfl rfl rfl rfl hl.1 (Nat.le_of_ble_eq_true rfl) d_S_blockMapStands_5 ⟨Nat.zero_le _, Nat.zero_le _⟩ (fun H locs hP hD hS => ?_)
  refine lv_istore_n (lv' := [(2, .int r_1), (0, .ref (h 6)), (1, .int a1)]) hx hb d_S_blockMapStands_8 rfl hl (by decide) rfl (fun ls hl => ?_)
  refine lv_iconst (v := 0) hx hb d_S_blockMapStands_9 (by decide) ?_
  refine lv_istore_n (lv' := [(3, .int ((0 : Int32))), (2, .int r_1), (0, .ref (h 6)), (1, .int a1)]) hx hb d_S_blockMapStands_10 rfl hl (by decide) rfl (fun ls hl => ?_)
  exact hj_11 N a1 r_1 ((0 : Int32)) _ _ _ hf hP hD hS (lv_sub hl [2, 3, 1, 0] rfl)
set_option maxHeartbeats 4000000 in
set_option maxRecDepth 100000 in
theorem c_S_freeBlocks {l : Launch} {dC : Nat → ClassId} {dI : Nat → Nat → Nat} {N : Nat} {h : Nat → Nat} {cI : ClassId} {cL : ClassId} {NW : Nat} {bk : Int32} {sz : Int32} {wd : Nat → Int64} {mb : Nat → Int32} {gB : Int32} {gI : Int32} {gN : Int32} {iN : Int32} {dr : Int32} {es : Int64} {of : Int64} {od : Int32} {pl : Int64} {hd : Int64} {tk : Nat → Int32} {kn : Nat → Int32} {li : Nat → Int32} {pa : Nat → Int32} {ins : Nat → Int32} {cm : Int32} {fd : Int32} {hr : Int32} {hs : Nat} {a1 : Int32} {r : Int32} (hf : f_S_freeBlocks N NW bk gB tk a1 = some (r)) : Met l y_S_freeBlocks ws_S_freeBlocks { frames := 2, cells := 0, slots := 0, locals := 42 } (PcU (dC, dI) clAll [(cI, .int), (cL, .long)] (wC h cI cL NW bk sz wd mb gB gI gN iN dr es of od pl hd tk kn li pa ins cm fd hr) hs [.ref (h 6), .int a1]) (QUi (dC, dI) clAll [(cI, .int), (cL, .long)] (wC h cI cL NW bk sz wd mb gB gI gN iN dr es of od pl hd tk kn li pa ins cm fd hr) (wC h cI cL NW bk sz wd mb gB gI gN iN dr es of od pl hd tk kn li pa ins cm fd hr) hs r) 0 0 (va_A (wC h cI cL NW bk sz wd mb gB gI gN iN dr es of od pl hd tk kn li pa ins cm fd hr) hs) := by
  refine mUi (cc := b_S_freeBlocks) (maxL := 5) (by decide) rfl (Nat.le_of_ble_eq_true rfl) ?_
  intro p e s m args below meth c Q hx hb hml hts hown A hA hK hP hD hS hret ls hl
  have htb : ∀ w ∈ TB, w.before args s = true := fun w h => hts w (List.mem_cons_of_mem _ h)
  have hl : lv_has ls 5 [(0, .ref (h 6)), (1, .int a1)] := hl
  have hj_14 : ∀ (k_14 : Nat) (x1 : Int32) (x2 : Int32) (x3 : Int32) (x4 : Int32) (H : Heap) (locs : List Loc) (ls : Array Slot), f_S_freeBlocks_14 N NW bk gB tk k_14 x1 x2 x3 x4 = some (r) → va_P (dC, dI) clAll (wC h cI cL NW bk sz wd mb gB gI gN iN dr es of od pl hd tk kn li pa ins cm fd hr) H → va_D A (wC h cI cL NW bk sz wd mb gB gI gN iN dr es of od pl hd tk kn li pa ins cm fd hr) → va_S A s.heap H locs → lv_has ls 5 [(0, .ref (h 6)), (1, .int x1), (2, .int x2), (3, .int x3), (4, .int x4)] → W p l e (headSpec ws_S_freeBlocks { frames := 2, cells := 0, slots := 0, locals := 42 }).room s m args below meth c H locs 0 0 Q (F0 m 14 ls []) := by
    intro k_14
    induction k_14 with
    | zero => intro _ _ _ _ _ _ _ hf; exact absurd hf (by simp [f_S_freeBlocks_14])
    | succ k_14 ih_14 =>
      intro x1 x2 x3 x4 H locs ls hf hP hD hS hl
      rw [f_S_freeBlocks_14] at hf
      refine lv_iload hx hb d_S_freeBlocks_14 (lv_at hl 4 rfl) ?_
      refine lv_iload_n hx hb d_S_freeBlocks_16 rfl (lv_at hl 2 rfl) ?_
      refine lv_icmp_ge (tgt := 47) hx hb d_S_freeBlocks_17 (by decide) (fun c_1 => ?_) (fun c_1 => ?_)
      · have hf := ite_t c_1 hf
        refine lv_iload_n hx hb d_S_freeBlocks_47 rfl (lv_at hl 3 rfl) ?_
        cases hf
        exact hret _ _ _ _ hP hD hS d_S_freeBlocks_48
      · have hf := ite_f c_1 hf
        refine lv_aload_n hx hb d_S_freeBlocks_20 rfl (lv_at hl 0 rfl) ?_
        refine lv_aload_n hx hb d_S_freeBlocks_21 rfl (lv_at hl 0 rfl) ?_
        refine va_get (D := (dC, dI)) (ci := 3) (v := .ref (h 3)) (C := R_S) (T := T_S) (N := 10) hx hb htb in_S hown hK hP 6 rfl rfl 1 (by decide) (htb _ tw_177) (fun _ h9 => h9) rfl d_S_freeBlocks_22 ?_
        refine lv_iload_n hx hb d_S_freeBlocks_25 rfl (lv_at hl 1 rfl) ?_
        obtain ⟨r_2, hc_3, hf⟩ := bd1_s hf
        refine ucVi (As := [.int x1]) (rest := [.ref (h 6)]) ⟨hx, hb, hml, hown, htb⟩ hK hP hD hS hA (fun hs => c_L_firstBlock hc_3) (cwV 1 htb (gV tw_340 tw_331 tw_332 tw_71 tw_333) rfl rfl rfl (by decide +kernel) ⟨Nat.le_of_ble_eq_true rfl, Nat.le_of_ble_eq_true rfl⟩) 3 2 rfl rfl rfl rfl rfl hl.1 (Nat.le_of_ble_eq_true rfl) d_S_freeBlocks_26 ⟨Nat.zero_le _, Nat.zero_le _⟩ (fun H locs hP hD hS => ?_)
        refine lv_iload hx hb d_S_freeBlocks_29 (lv_at hl 4 rfl) ?_
        refine lv_iadd hx hb d_S_freeBlocks_31 ?_
        obtain ⟨r_4, hc_5, hf⟩ := bd1_s hf
        refine ucVi (As := [.int (r_2 + x4)]) (rest := []) ⟨hx, hb, hml, hown, htb⟩ hK hP hD hS hA (fun hs => c_S_isTaken hc_5) (cwV 1 htb (gV tw_554 tw_556 tw_22 tw_73 tw_557) rfl rfl rfl (by decide +kernel) ⟨Nat.le_of_ble_eq_true rfl, Nat.le_of_ble_eq_true rfl⟩) 6 3 rfl rfl rfl rfl rfl hl.1 (Nat.le_of_ble_eq_true rfl) d_S_freeBlocks_32 ⟨Nat.zero_le _, Nat.zero_le _⟩ (fun H locs hP hD hS => ?_)
        refine lv_if_ne (tgt := 41) hx hb d_S_freeBlocks_35 (by decide) (fun c_6 => ?_) (fun c_6 => ?_)
        · have hf := ite_f c_6 hf
          obtain ⟨v4_7, ev4_7, hf⟩ := lt1_s hf
          refine lv_iinc (v := v4_7) (lv' := [(4, .int v4_7), (0, .ref (h 6)), (1, .int x1), (2, .int x2), (3, .int x3)]) hx hb d_S_freeBlocks_41 hl (k := 4) rfl (by rw [← ev4_7]; rfl) (by decide) rfl (fun ls hl => ?_)
          refine lv_goto (tgt := 14) hx hb d_S_freeBlocks_44 (by decide) ?_
          exact ih_14 x1 x2 x3 v4_7 _ _ _ hf hP hD hS (lv_sub hl [1, 2, 3, 4, 0] rfl)
        · have hf := ite_t c_6 hf
          obtain ⟨v3_8, ev3_8, hf⟩ := lt1_s hf
          refine lv_iinc (v := v3_8) (lv' := [(3, .int v3_8), (0, .ref (h 6)), (1, .int x1), (2, .int x2), (4, .int x4)]) hx hb d_S_freeBlocks_38 hl (k := 3) rfl (by rw [← ev3_8]; rfl) (by decide) rfl (fun ls hl => ?_)
          obtain ⟨v4_9, ev4_9, hf⟩ := lt1_s hf
          refine lv_iinc (v := v4_9) (lv' := [(4, .int v4_9), (3, .int v3_8), (0, .ref (h 6)), (1, .int x1), (2, .int x2)]) hx hb d_S_freeBlocks_41 hl (k := 4) rfl (by rw [← ev4_9]; rfl) (by decide) rfl (fun ls hl => ?_)
          refine lv_goto (tgt := 14) hx hb d_S_freeBlocks_44 (by decide) ?_
          exact ih_14 x1 x2 v3_8 v4_9 _ _ _ hf hP hD hS (lv_sub hl [2, 3, 4, 1, 0] rfl)
  unfold f_S_freeBlocks at hf
  refine lv_aload_n hx hb d_S_freeBlocks_0 rfl (lv_at hl 0 rfl) ?_
  refine va_get (D := (dC, dI)) (ci := 3) (v := .ref (h 3)) (C := R_S) (T := T_S) (N := 10) hx hb htb in_S hown hK hP 6 rfl rfl 1 (by decide) (htb _ tw_177) (fun _ h9 => h9) rfl d_S_freeBlocks_1 ?_
  refine lv_iload_n hx hb d_S_freeBlocks_4 rfl (lv_at hl 1 rfl) ?_
  obtain ⟨r_1, hc_2, hf⟩ := bd1_s hf
  refine ucVi (As := [.int a1]) (rest := []) ⟨hx, hb, hml, hown, htb⟩ hK hP hD hS hA (fun hs => c_L_blocksOf hc_2) (cwV 1 htb (gV tw_326 tw_327 tw_328 tw_71 tw_329) rfl rfl rfl (by decide +kernel) ⟨Nat.le_of_ble_eq_true rfl, Nat.le_of_ble_eq_true rfl⟩) 3 2 rfl rfl rfl rfl rfl hl.1 (Nat.le_of_ble_eq_true rfl) d_S_freeBlocks_5 ⟨Nat.zero_le _, Nat.zero_le _⟩ (fun H locs hP hD hS => ?_)
  refine lv_istore_n (lv' := [(2, .int r_1), (0, .ref (h 6)), (1, .int a1)]) hx hb d_S_freeBlocks_8 rfl hl (by decide) rfl (fun ls hl => ?_)
  refine lv_iconst (v := 0) hx hb d_S_freeBlocks_9 (by decide) ?_
  refine lv_istore_n (lv' := [(3, .int ((0 : Int32))), (2, .int r_1), (0, .ref (h 6)), (1, .int a1)]) hx hb d_S_freeBlocks_10 rfl hl (by decide) rfl (fun ls hl => ?_)
  refine lv_iconst (v := 0) hx hb d_S_freeBlocks_11 (by decide) ?_
  refine lv_istore (lv' := [(4, .int ((0 : Int32))), (3, .int ((0 : Int32))), (2, .int r_1), (0, .ref (h 6)), (1, .int a1)]) hx hb d_S_freeBlocks_12 hl (by decide) rfl (fun ls hl => ?_)
  exact hj_14 N a1 r_1 ((0 : Int32)) ((0 : Int32)) _ _ _ hf hP hD hS (lv_sub hl [3, 4, 2, 1, 0] rfl)
set_option maxHeartbeats 4000000 in
set_option maxRecDepth 100000 in
theorem c_S_freeInodes {l : Launch} {dC : Nat → ClassId} {dI : Nat → Nat → Nat} {N : Nat} {h : Nat → Nat} {cI : ClassId} {cL : ClassId} {NW : Nat} {bk : Int32} {sz : Int32} {wd : Nat → Int64} {mb : Nat → Int32} {gB : Int32} {gI : Int32} {gN : Int32} {iN : Int32} {dr : Int32} {es : Int64} {of : Int64} {od : Int32} {pl : Int64} {hd : Int64} {tk : Nat → Int32} {kn : Nat → Int32} {li : Nat → Int32} {pa : Nat → Int32} {ins : Nat → Int32} {cm : Int32} {fd : Int32} {hr : Int32} {hs : Nat} {a1 : Int32} {r : Int32} (hf : f_S_freeInodes N NW sz wd mb gI a1 = some (r)) : Met l y_S_freeInodes ws_S_freeInodes { frames := 2, cells := 0, slots := 0, locals := 50 } (PcU (dC, dI) clAll [(cI, .int), (cL, .long)] (wC h cI cL NW bk sz wd mb gB gI gN iN dr es of od pl hd tk kn li pa ins cm fd hr) hs [.ref (h 6), .int a1]) (QUi (dC, dI) clAll [(cI, .int), (cL, .long)] (wC h cI cL NW bk sz wd mb gB gI gN iN dr es of od pl hd tk kn li pa ins cm fd hr) (wC h cI cL NW bk sz wd mb gB gI gN iN dr es of od pl hd tk kn li pa ins cm fd hr) hs r) 0 0 (va_A (wC h cI cL NW bk sz wd mb gB gI gN iN dr es of od pl hd tk kn li pa ins cm fd hr) hs) := by
  refine mUi (cc := b_S_freeInodes) (maxL := 4) (by decide) rfl (Nat.le_of_ble_eq_true rfl) ?_
  intro p e s m args below meth c Q hx hb hml hts hown A hA hK hP hD hS hret ls hl
  have htb : ∀ w ∈ TB, w.before args s = true := fun w h => hts w (List.mem_cons_of_mem _ h)
  have hl : lv_has ls 4 [(0, .ref (h 6)), (1, .int a1)] := hl
  have hj_4 : ∀ (k_4 : Nat) (x1 : Int32) (x2 : Int32) (x3 : Int32) (H : Heap) (locs : List Loc) (ls : Array Slot), f_S_freeInodes_4 N NW sz wd mb gI k_4 x1 x2 x3 = some (r) → va_P (dC, dI) clAll (wC h cI cL NW bk sz wd mb gB gI gN iN dr es of od pl hd tk kn li pa ins cm fd hr) H → va_D A (wC h cI cL NW bk sz wd mb gB gI gN iN dr es of od pl hd tk kn li pa ins cm fd hr) → va_S A s.heap H locs → lv_has ls 4 [(0, .ref (h 6)), (1, .int x1), (2, .int x2), (3, .int x3)] → W p l e (headSpec ws_S_freeInodes { frames := 2, cells := 0, slots := 0, locals := 50 }).room s m args below meth c H locs 0 0 Q (F0 m 4 ls []) := by
    intro k_4
    induction k_4 with
    | zero => intro _ _ _ _ _ _ hf; exact absurd hf (by simp [f_S_freeInodes_4])
    | succ k_4 ih_4 =>
      intro x1 x2 x3 H locs ls hf hP hD hS hl
      rw [f_S_freeInodes_4] at hf
      refine lv_iload_n hx hb d_S_freeInodes_4 rfl (lv_at hl 3 rfl) ?_
      refine lv_aload_n hx hb d_S_freeInodes_5 rfl (lv_at hl 0 rfl) ?_
      refine va_get (D := (dC, dI)) (ci := 3) (v := .ref (h 3)) (C := R_S) (T := T_S) (N := 10) hx hb htb in_S hown hK hP 6 rfl rfl 1 (by decide) (htb _ tw_177) (fun _ h9 => h9) rfl d_S_freeInodes_6 ?_
      obtain ⟨r_1, hc_2, hf⟩ := bd1_s hf
      refine ucVi (As := []) (rest := [.int x3]) ⟨hx, hb, hml, hown, htb⟩ hK hP hD hS hA (fun hs => c_L_groupInodes hc_2) (cwV 0 htb (gV tw_348 tw_349 tw_350 tw_71 tw_351) rfl rfl rfl (by decide +kernel) ⟨Nat.le_of_ble_eq_true rfl, Nat.le_of_ble_eq_true rfl⟩) 3 2 rfl rfl rfl rfl rfl hl.1 (Nat.le_of_ble_eq_true rfl) d_S_freeInodes_9 ⟨Nat.zero_le _, Nat.zero_le _⟩ (fun H locs hP hD hS => ?_)
      refine lv_icmp_ge (tgt := 43) hx hb d_S_freeInodes_12 (by decide) (fun c_3 => ?_) (fun c_3 => ?_)
      · have hf := ite_t c_3 hf
        refine lv_iload_n hx hb d_S_freeInodes_43 rfl (lv_at hl 2 rfl) ?_
        cases hf
        exact hret _ _ _ _ hP hD hS d_S_freeInodes_44
      · have hf := ite_f c_3 hf
        refine lv_aload_n hx hb d_S_freeInodes_15 rfl (lv_at hl 0 rfl) ?_
        refine va_get (D := (dC, dI)) (ci := 3) (v := .ref (h 1)) (C := R_S) (T := T_S) (N := 10) hx hb htb in_S hown hK hP 6 rfl rfl 0 (by decide) (htb _ tw_176) (fun _ h9 => h9) rfl d_S_freeInodes_16 ?_
        refine lv_aload_n hx hb d_S_freeInodes_19 rfl (lv_at hl 0 rfl) ?_
        refine va_get (D := (dC, dI)) (ci := 3) (v := .ref (h 3)) (C := R_S) (T := T_S) (N := 10) hx hb htb in_S hown hK hP 6 rfl rfl 1 (by decide) (htb _ tw_177) (fun _ h9 => h9) rfl d_S_freeInodes_20 ?_
        refine lv_iload_n hx hb d_S_freeInodes_23 rfl (lv_at hl 1 rfl) ?_
        obtain ⟨r_4, hc_5, hf⟩ := bd1_s hf
        refine ucVl (As := [.int x1]) (rest := [.ref (h 1)]) ⟨hx, hb, hml, hown, htb⟩ hK hP hD hS hA (fun hs => c_L_inodeMap hc_5) (cwV 1 htb (gV tw_562 tw_563 tw_564 tw_71 tw_565) rfl rfl rfl (by decide +kernel) ⟨Nat.le_of_ble_eq_true rfl, Nat.le_of_ble_eq_true rfl⟩) 3 2 rfl rfl rfl rfl rfl hl.1 (Nat.le_of_ble_eq_true rfl) d_S_freeInodes_24 ⟨Nat.zero_le _, Nat.zero_le _⟩ (fun H locs hP hD hS => ?_)
        refine lv_iload_n hx hb d_S_freeInodes_27 rfl (lv_at hl 3 rfl) ?_
        obtain ⟨r_6, hc_7, hf⟩ := bd1_s hf
        refine ucVi (As := [.long r_4, .int x3]) (rest := []) ⟨hx, hb, hml, hown, htb⟩ hK hP hD hS hA (fun hs => c_D_bit hc_7) (cwV 2 htb (gV tw_550 tw_551 tw_552 tw_69 tw_553) rfl rfl rfl (by decide +kernel) ⟨Nat.le_of_ble_eq_true rfl, Nat.le_of_ble_eq_true rfl⟩) 1 0 rfl rfl rfl rfl rfl hl.1 (Nat.le_of_ble_eq_true rfl) d_S_freeInodes_28 ⟨Nat.zero_le _, Nat.zero_le _⟩ (fun H locs hP hD hS => ?_)
        refine lv_if_ne (tgt := 37) hx hb d_S_freeInodes_31 (by decide) (fun c_8 => ?_) (fun c_8 => ?_)
        · have hf := ite_f c_8 hf
          obtain ⟨v3_9, ev3_9, hf⟩ := lt1_s hf
          refine lv_iinc (v := v3_9) (lv' := [(3, .int v3_9), (0, .ref (h 6)), (1, .int x1), (2, .int x2)]) hx hb d_S_freeInodes_37 hl (k := 3) rfl (by rw [← ev3_9]; rfl) (by decide) rfl (fun ls hl => ?_)
          refine lv_goto (tgt := 4) hx hb d_S_freeInodes_40 (by decide) ?_
          exact ih_4 x1 x2 v3_9 _ _ _ hf hP hD hS (lv_sub hl [1, 2, 3, 0] rfl)
        · have hf := ite_t c_8 hf
          obtain ⟨v2_10, ev2_10, hf⟩ := lt1_s hf
          refine lv_iinc (v := v2_10) (lv' := [(2, .int v2_10), (0, .ref (h 6)), (1, .int x1), (3, .int x3)]) hx hb d_S_freeInodes_34 hl (k := 2) rfl (by rw [← ev2_10]; rfl) (by decide) rfl (fun ls hl => ?_)
          obtain ⟨v3_11, ev3_11, hf⟩ := lt1_s hf
          refine lv_iinc (v := v3_11) (lv' := [(3, .int v3_11), (2, .int v2_10), (0, .ref (h 6)), (1, .int x1)]) hx hb d_S_freeInodes_37 hl (k := 3) rfl (by rw [← ev3_11]; rfl) (by decide) rfl (fun ls hl => ?_)
          refine lv_goto (tgt := 4) hx hb d_S_freeInodes_40 (by decide) ?_
          exact ih_4 x1 v2_10 v3_11 _ _ _ hf hP hD hS (lv_sub hl [2, 3, 1, 0] rfl)
  unfold f_S_freeInodes at hf
  refine lv_iconst (v := 0) hx hb d_S_freeInodes_0 (by decide) ?_
  refine lv_istore_n (lv' := [(2, .int ((0 : Int32))), (0, .ref (h 6)), (1, .int a1)]) hx hb d_S_freeInodes_1 rfl hl (by decide) rfl (fun ls hl => ?_)
  refine lv_iconst (v := 0) hx hb d_S_freeInodes_2 (by decide) ?_
  refine lv_istore_n (lv' := [(3, .int ((0 : Int32))), (2, .int ((0 : Int32))), (0, .ref (h 6)), (1, .int a1)]) hx hb d_S_freeInodes_3 rfl hl (by decide) rfl (fun ls hl => ?_)
  exact hj_4 N a1 ((0 : Int32)) ((0 : Int32)) _ _ _ hf hP hD hS (lv_sub hl [2, 3, 1, 0] rfl)
set_option maxHeartbeats 4000000 in
set_option maxRecDepth 100000 in
theorem c_S_directories {l : Launch} {dC : Nat → ClassId} {dI : Nat → Nat → Nat} {N : Nat} {h : Nat → Nat} {cI : ClassId} {cL : ClassId} {NW : Nat} {bk : Int32} {sz : Int32} {wd : Nat → Int64} {mb : Nat → Int32} {gB : Int32} {gI : Int32} {gN : Int32} {iN : Int32} {dr : Int32} {es : Int64} {of : Int64} {od : Int32} {pl : Int64} {hd : Int64} {tk : Nat → Int32} {kn : Nat → Int32} {li : Nat → Int32} {pa : Nat → Int32} {ins : Nat → Int32} {cm : Int32} {fd : Int32} {hr : Int32} {hs : Nat} {a1 : Int32} {r : Int32} (hf : f_S_directories N NW sz wd mb gI li cm a1 = some (r)) : Met l y_S_directories ws_S_directories { frames := 2, cells := 0, slots := 0, locals := 48 } (PcU (dC, dI) clAll [(cI, .int), (cL, .long)] (wC h cI cL NW bk sz wd mb gB gI gN iN dr es of od pl hd tk kn li pa ins cm fd hr) hs [.ref (h 6), .int a1]) (QUi (dC, dI) clAll [(cI, .int), (cL, .long)] (wC h cI cL NW bk sz wd mb gB gI gN iN dr es of od pl hd tk kn li pa ins cm fd hr) (wC h cI cL NW bk sz wd mb gB gI gN iN dr es of od pl hd tk kn li pa ins cm fd hr) hs r) 0 0 (va_A (wC h cI cL NW bk sz wd mb gB gI gN iN dr es of od pl hd tk kn li pa ins cm fd hr) hs) := by
  refine mUi (cc := b_S_directories) (maxL := 4) (by decide) rfl (Nat.le_of_ble_eq_true rfl) ?_
  intro p e s m args below meth c Q hx hb hml hts hown A hA hK hP hD hS hret ls hl
  have htb : ∀ w ∈ TB, w.before args s = true := fun w h => hts w (List.mem_cons_of_mem _ h)
  have hl : lv_has ls 4 [(0, .ref (h 6)), (1, .int a1)] := hl
  have hj_4 : ∀ (k_4 : Nat) (x1 : Int32) (x2 : Int32) (x3 : Int32) (H : Heap) (locs : List Loc) (ls : Array Slot), f_S_directories_4 N NW sz wd mb gI li cm k_4 x1 x2 x3 = some (r) → va_P (dC, dI) clAll (wC h cI cL NW bk sz wd mb gB gI gN iN dr es of od pl hd tk kn li pa ins cm fd hr) H → va_D A (wC h cI cL NW bk sz wd mb gB gI gN iN dr es of od pl hd tk kn li pa ins cm fd hr) → va_S A s.heap H locs → lv_has ls 4 [(0, .ref (h 6)), (1, .int x1), (2, .int x2), (3, .int x3)] → W p l e (headSpec ws_S_directories { frames := 2, cells := 0, slots := 0, locals := 48 }).room s m args below meth c H locs 0 0 Q (F0 m 4 ls []) := by
    intro k_4
    induction k_4 with
    | zero => intro _ _ _ _ _ _ hf; exact absurd hf (by simp [f_S_directories_4])
    | succ k_4 ih_4 =>
      intro x1 x2 x3 H locs ls hf hP hD hS hl
      rw [f_S_directories_4] at hf
      refine lv_iload_n hx hb d_S_directories_4 rfl (lv_at hl 3 rfl) ?_
      refine lv_aload_n hx hb d_S_directories_5 rfl (lv_at hl 0 rfl) ?_
      refine va_get (D := (dC, dI)) (ci := 3) (v := .int cm) (C := R_S) (T := T_S) (N := 10) hx hb htb in_S hown hK hP 6 rfl rfl 8 (by decide) (htb _ tw_184) (fun _ h9 => h9) rfl d_S_directories_6 ?_
      refine lv_icmp_ge (tgt := 66) hx hb d_S_directories_9 (by decide) (fun c_1 => ?_) (fun c_1 => ?_)
      · have hf := ite_t c_1 hf
        refine lv_iload_n hx hb d_S_directories_66 rfl (lv_at hl 2 rfl) ?_
        cases hf
        exact hret _ _ _ _ hP hD hS d_S_directories_67
      · have hf := ite_f c_1 hf
        refine lv_iload_n hx hb d_S_directories_12 rfl (lv_at hl 3 rfl) ?_
        refine lv_aload_n hx hb d_S_directories_13 rfl (lv_at hl 0 rfl) ?_
        refine va_get (D := (dC, dI)) (ci := 3) (v := .ref (h 9)) (C := R_S) (T := T_S) (N := 10) hx hb htb in_S hown hK hP 6 rfl rfl 5 (by decide) (htb _ tw_181) (fun _ h9 => h9) rfl d_S_directories_14 ?_
        refine va_alen (v := (4096 : Int32)) hx hb hK hP 9 0 rfl rfl rfl d_S_directories_17 ?_
        refine lv_icmp_ge (tgt := 66) hx hb d_S_directories_18 (by decide) (fun c_2 => ?_) (fun c_2 => ?_)
        · have hf := ite_t c_2 hf
          refine lv_iload_n hx hb d_S_directories_66 rfl (lv_at hl 2 rfl) ?_
          cases hf
          exact hret _ _ _ _ hP hD hS d_S_directories_67
        · have hf := ite_f c_2 hf
          refine lv_aload_n hx hb d_S_directories_21 rfl (lv_at hl 0 rfl) ?_
          refine va_get (D := (dC, dI)) (ci := 3) (v := .ref (h 3)) (C := R_S) (T := T_S) (N := 10) hx hb htb in_S hown hK hP 6 rfl rfl 1 (by decide) (htb _ tw_177) (fun _ h9 => h9) rfl d_S_directories_22 ?_
          refine lv_aload_n hx hb d_S_directories_25 rfl (lv_at hl 0 rfl) ?_
          refine va_get (D := (dC, dI)) (ci := 3) (v := .ref (h 9)) (C := R_S) (T := T_S) (N := 10) hx hb htb in_S hown hK hP 6 rfl rfl 5 (by decide) (htb _ tw_181) (fun _ h9 => h9) rfl d_S_directories_26 ?_
          refine lv_iload_n hx hb d_S_directories_29 rfl (lv_at hl 3 rfl) ?_
          obtain ⟨c_3, hf⟩ := gd_s hf
          refine va_iald (i := x3) hx hb hK hP 9 0 rfl rfl c_3 d_S_directories_30 ?_
          obtain ⟨r_4, hc_5, hf⟩ := bd1_s hf
          refine ucVi (As := [.int (li (Int32.toNatClampNeg x3))]) (rest := []) ⟨hx, hb, hml, hown, htb⟩ hK hP hD hS hA (fun hs => c_L_groupOf hc_5) (cwV 1 htb (gV tw_579 tw_374 tw_375 tw_71 tw_376) rfl rfl rfl (by decide +kernel) ⟨Nat.le_of_ble_eq_true rfl, Nat.le_of_ble_eq_true rfl⟩) 3 2 rfl rfl rfl rfl rfl hl.1 (Nat.le_of_ble_eq_true rfl) d_S_directories_31 ⟨Nat.zero_le _, Nat.zero_le _⟩ (fun H locs hP hD hS => ?_)
          refine lv_iload_n hx hb d_S_directories_34 rfl (lv_at hl 1 rfl) ?_
          refine lv_icmp_ne (tgt := 60) hx hb d_S_directories_35 (by decide) (fun c_6 => ?_) (fun c_6 => ?_)
          · have hf := ite_f c_6 hf
            obtain ⟨v3_7, ev3_7, hf⟩ := lt1_s hf
            refine lv_iinc (v := v3_7) (lv' := [(3, .int v3_7), (0, .ref (h 6)), (1, .int x1), (2, .int x2)]) hx hb d_S_directories_60 hl (k := 3) rfl (by rw [← ev3_7]; rfl) (by decide) rfl (fun ls hl => ?_)
            refine lv_goto (tgt := 4) hx hb d_S_directories_63 (by decide) ?_
            exact ih_4 x1 x2 v3_7 _ _ _ hf hP hD hS (lv_sub hl [1, 2, 3, 0] rfl)
          · have hf := ite_t c_6 hf
            refine lv_aload_n hx hb d_S_directories_38 rfl (lv_at hl 0 rfl) ?_
            refine va_get (D := (dC, dI)) (ci := 3) (v := .ref (h 3)) (C := R_S) (T := T_S) (N := 10) hx hb htb in_S hown hK hP 6 rfl rfl 1 (by decide) (htb _ tw_177) (fun _ h9 => h9) rfl d_S_directories_39 ?_
            refine lv_aload_n hx hb d_S_directories_42 rfl (lv_at hl 0 rfl) ?_
            refine va_get (D := (dC, dI)) (ci := 3) (v := .ref (h 9)) (C := R_S) (T := T_S) (N := 10) hx hb htb in_S hown hK hP 6 rfl rfl 5 (by decide) (htb _ tw_181) (fun _ h9 => h9) rfl d_S_directories_43 ?_
            refine lv_iload_n hx hb d_S_directories_46 rfl (lv_at hl 3 rfl) ?_
            obtain ⟨c_8, hf⟩ := gd_s hf
            refine va_iald (i := x3) hx hb hK hP 9 0 rfl rfl c_8 d_S_directories_47 ?_
            obtain ⟨r_9, hc_10, hf⟩ := bd1_s hf
            refine ucVi (As := [.int (li (Int32.toNatClampNeg x3))]) (rest := []) ⟨hx, hb, hml, hown, htb⟩ hK hP hD hS hA (fun hs => c_L_typeOf hc_10) (cwV 1 htb (gV tw_378 tw_379 tw_380 tw_71 tw_381) rfl rfl rfl (by decide +kernel) ⟨Nat.le_of_ble_eq_true rfl, Nat.le_of_ble_eq_true rfl⟩) 3 2 rfl rfl rfl rfl rfl hl.1 (Nat.le_of_ble_eq_true rfl) d_S_directories_48 ⟨Nat.zero_le _, Nat.zero_le _⟩ (fun H locs hP hD hS => ?_)
            refine lv_sipush (v := 16384) hx hb d_S_directories_51 (by decide) ?_
            refine lv_icmp_ne (tgt := 60) hx hb d_S_directories_54 (by decide) (fun c_11 => ?_) (fun c_11 => ?_)
            · have hf := ite_f c_11 hf
              obtain ⟨v3_12, ev3_12, hf⟩ := lt1_s hf
              refine lv_iinc (v := v3_12) (lv' := [(3, .int v3_12), (0, .ref (h 6)), (1, .int x1), (2, .int x2)]) hx hb d_S_directories_60 hl (k := 3) rfl (by rw [← ev3_12]; rfl) (by decide) rfl (fun ls hl => ?_)
              refine lv_goto (tgt := 4) hx hb d_S_directories_63 (by decide) ?_
              exact ih_4 x1 x2 v3_12 _ _ _ hf hP hD hS (lv_sub hl [1, 2, 3, 0] rfl)
            · have hf := ite_t c_11 hf
              obtain ⟨v2_13, ev2_13, hf⟩ := lt1_s hf
              refine lv_iinc (v := v2_13) (lv' := [(2, .int v2_13), (0, .ref (h 6)), (1, .int x1), (3, .int x3)]) hx hb d_S_directories_57 hl (k := 2) rfl (by rw [← ev2_13]; rfl) (by decide) rfl (fun ls hl => ?_)
              obtain ⟨v3_14, ev3_14, hf⟩ := lt1_s hf
              refine lv_iinc (v := v3_14) (lv' := [(3, .int v3_14), (2, .int v2_13), (0, .ref (h 6)), (1, .int x1)]) hx hb d_S_directories_60 hl (k := 3) rfl (by rw [← ev3_14]; rfl) (by decide) rfl (fun ls hl => ?_)
              refine lv_goto (tgt := 4) hx hb d_S_directories_63 (by decide) ?_
              exact ih_4 x1 v2_13 v3_14 _ _ _ hf hP hD hS (lv_sub hl [2, 3, 1, 0] rfl)
  unfold f_S_directories at hf
  refine lv_iconst (v := 0) hx hb d_S_directories_0 (by decide) ?_
  refine lv_istore_n (lv' := [(2, .int ((0 : Int32))), (0, .ref (h 6)), (1, .int a1)]) hx hb d_S_directories_1 rfl hl (by decide) rfl (fun ls hl => ?_)
  refine lv_iconst (v := 0) hx hb d_S_directories_2 (by decide) ?_
  refine lv_istore_n (lv' := [(3, .int ((0 : Int32))), (2, .int ((0 : Int32))), (0, .ref (h 6)), (1, .int a1)]) hx hb d_S_directories_3 rfl hl (by decide) rfl (fun ls hl => ?_)
  exact hj_4 N a1 ((0 : Int32)) ((0 : Int32)) _ _ _ hf hP hD hS (lv_sub hl [2, 3, 1, 0] rfl)
set_option maxHeartbeats 4000000 in
set_option maxRecDepth 100000 in
theorem c_S_mapsStand {l : Launch} {dC : Nat → ClassId} {dI : Nat → Nat → Nat} {N : Nat} {h : Nat → Nat} {cI : ClassId} {cL : ClassId} {NW : Nat} {bk : Int32} {sz : Int32} {wd : Nat → Int64} {mb : Nat → Int32} {gB : Int32} {gI : Int32} {gN : Int32} {iN : Int32} {dr : Int32} {es : Int64} {of : Int64} {od : Int32} {pl : Int64} {hd : Int64} {tk : Nat → Int32} {kn : Nat → Int32} {li : Nat → Int32} {pa : Nat → Int32} {ins : Nat → Int32} {cm : Int32} {fd : Int32} {hr : Int32} {hs : Nat} {r : Int32} (hf : f_S_mapsStand N NW bk sz wd mb gB gI gN tk li cm = some (r)) : Met l y_S_mapsStand ws_S_mapsStand { frames := 3, cells := 0, slots := 0, locals := 74 } (PcU (dC, dI) clAll [(cI, .int), (cL, .long)] (wC h cI cL NW bk sz wd mb gB gI gN iN dr es of od pl hd tk kn li pa ins cm fd hr) hs [.ref (h 6)]) (QUi (dC, dI) clAll [(cI, .int), (cL, .long)] (wC h cI cL NW bk sz wd mb gB gI gN iN dr es of od pl hd tk kn li pa ins cm fd hr) (wC h cI cL NW bk sz wd mb gB gI gN iN dr es of od pl hd tk kn li pa ins cm fd hr) hs r) 0 0 (va_A (wC h cI cL NW bk sz wd mb gB gI gN iN dr es of od pl hd tk kn li pa ins cm fd hr) hs) := by
  refine mUz (cc := b_S_mapsStand) (maxL := 6) (by decide) rfl (Nat.le_of_ble_eq_true rfl) ?_
  intro p e s m args below meth c Q hx hb hml hts hown A hA hK hP hD hS hret ls hl
  have htb : ∀ w ∈ TB, w.before args s = true := fun w h => hts w (List.mem_cons_of_mem _ h)
  have hl : lv_has ls 6 [(0, .ref (h 6))] := hl
  have hj_6 : ∀ (k_6 : Nat) (x1 : Int32) (x2 : Int32) (x3 : Int32) (H : Heap) (locs : List Loc) (ls : Array Slot), f_S_mapsStand_6 N NW bk sz wd mb gB gI gN tk li cm k_6 x1 x2 x3 = some (r) → va_P (dC, dI) clAll (wC h cI cL NW bk sz wd mb gB gI gN iN dr es of od pl hd tk kn li pa ins cm fd hr) H → va_D A (wC h cI cL NW bk sz wd mb gB gI gN iN dr es of od pl hd tk kn li pa ins cm fd hr) → va_S A s.heap H locs → lv_has ls 6 [(0, .ref (h 6)), (1, .int x1), (2, .int x2), (3, .int x3)] → W p l e (headSpec ws_S_mapsStand { frames := 3, cells := 0, slots := 0, locals := 74 }).room s m args below meth c H locs 0 0 Q (F0 m 6 ls []) := by
    intro k_6
    induction k_6 with
    | zero => intro _ _ _ _ _ _ hf; exact absurd hf (by simp [f_S_mapsStand_6])
    | succ k_6 ih_6 =>
      intro x1 x2 x3 H locs ls hf hP hD hS hl
      rw [f_S_mapsStand_6] at hf
      refine lv_iload_n hx hb d_S_mapsStand_6 rfl (lv_at hl 3 rfl) ?_
      refine lv_aload_n hx hb d_S_mapsStand_7 rfl (lv_at hl 0 rfl) ?_
      refine va_get (D := (dC, dI)) (ci := 3) (v := .ref (h 3)) (C := R_S) (T := T_S) (N := 10) hx hb htb in_S hown hK hP 6 rfl rfl 1 (by decide) (htb _ tw_177) (fun _ h9 => h9) rfl d_S_mapsStand_8 ?_
      obtain ⟨r_1, hc_2, hf⟩ := bd1_s hf
      refine ucVi (As := []) (rest := [.int x3]) ⟨hx, hb, hml, hown, htb⟩ hK hP hD hS hA (fun hs => c_L_groups hc_2) (cwV 0 htb (gV tw_322 tw_323 tw_324 tw_71 tw_325) rfl rfl rfl (by decide +kernel) ⟨Nat.le_of_ble_eq_true rfl, Nat.le_of_ble_eq_true rfl⟩) 3 2 rfl rfl rfl rfl rfl hl.1 (Nat.le_of_ble_eq_true rfl) d_S_mapsStand_11 ⟨Nat.zero_le _, Nat.zero_le _⟩ (fun H locs hP hD hS => ?_)
      refine lv_icmp_ge (tgt := 141) hx hb d_S_mapsStand_14 (by decide) (fun c_3 => ?_) (fun c_3 => ?_)
      · have hf := ite_t c_3 hf
        refine lv_aload_n hx hb d_S_mapsStand_141 rfl (lv_at hl 0 rfl) ?_
        refine lv_bipush (v := 12) hx hb d_S_mapsStand_142 (by decide) ?_
        refine lv_iconst (v := 4) hx hb d_S_mapsStand_144 (by decide) ?_
        refine lv_iload_n hx hb d_S_mapsStand_145 rfl (lv_at hl 1 rfl) ?_
        refine lv_i2l hx hb d_S_mapsStand_146 rfl ?_
        obtain ⟨r_4, hc_5, hf⟩ := bd1_s hf
        refine ucVi (As := [.int ((12 : Int32)), .int ((4 : Int32)), .long (Int32.toInt64 x1)]) (rest := []) ⟨hx, hb, hml, hown, htb⟩ hK hP hD hS hA (fun hs => c_S_superblockHas hc_5) (cwV 3 htb (gV tw_304 tw_306 tw_2 tw_73 tw_307) rfl rfl rfl (by decide +kernel) ⟨Nat.le_of_ble_eq_true rfl, Nat.le_of_ble_eq_true rfl⟩) 6 3 rfl rfl rfl rfl rfl hl.1 (Nat.le_of_ble_eq_true rfl) d_S_mapsStand_147 ⟨Nat.zero_le _, Nat.zero_le _⟩ (fun H locs hP hD hS => ?_)
        refine lv_if_eq (tgt := 169) hx hb d_S_mapsStand_150 (by decide) (fun c_6 => ?_) (fun c_6 => ?_)
        · have hf := ite_t c_6 hf
          refine lv_iconst (v := 0) hx hb d_S_mapsStand_169 (by decide) ?_
          cases hf
          exact hret _ _ _ _ (Or.inl rfl) hP hD hS d_S_mapsStand_170
        · have hf := ite_f c_6 hf
          refine lv_aload_n hx hb d_S_mapsStand_153 rfl (lv_at hl 0 rfl) ?_
          refine lv_bipush (v := 16) hx hb d_S_mapsStand_154 (by decide) ?_
          refine lv_iconst (v := 4) hx hb d_S_mapsStand_156 (by decide) ?_
          refine lv_iload_n hx hb d_S_mapsStand_157 rfl (lv_at hl 2 rfl) ?_
          refine lv_i2l hx hb d_S_mapsStand_158 rfl ?_
          obtain ⟨r_7, hc_8, hf⟩ := bd1_s hf
          refine ucVi (As := [.int ((16 : Int32)), .int ((4 : Int32)), .long (Int32.toInt64 x2)]) (rest := []) ⟨hx, hb, hml, hown, htb⟩ hK hP hD hS hA (fun hs => c_S_superblockHas hc_8) (cwV 3 htb (gV tw_304 tw_306 tw_2 tw_73 tw_307) rfl rfl rfl (by decide +kernel) ⟨Nat.le_of_ble_eq_true rfl, Nat.le_of_ble_eq_true rfl⟩) 6 3 rfl rfl rfl rfl rfl hl.1 (Nat.le_of_ble_eq_true rfl) d_S_mapsStand_159 ⟨Nat.zero_le _, Nat.zero_le _⟩ (fun H locs hP hD hS => ?_)
          refine lv_if_eq (tgt := 169) hx hb d_S_mapsStand_162 (by decide) (fun c_9 => ?_) (fun c_9 => ?_)
          · have hf := ite_t c_9 hf
            refine lv_iconst (v := 0) hx hb d_S_mapsStand_169 (by decide) ?_
            cases hf
            exact hret _ _ _ _ (Or.inl rfl) hP hD hS d_S_mapsStand_170
          · have hf := ite_f c_9 hf
            refine lv_iconst (v := 1) hx hb d_S_mapsStand_165 (by decide) ?_
            refine lv_goto (tgt := 170) hx hb d_S_mapsStand_166 (by decide) ?_
            cases hf
            exact hret _ _ _ _ (Or.inr rfl) hP hD hS d_S_mapsStand_170
      · have hf := ite_f c_3 hf
        refine lv_aload_n hx hb d_S_mapsStand_17 rfl (lv_at hl 0 rfl) ?_
        refine lv_iload_n hx hb d_S_mapsStand_18 rfl (lv_at hl 3 rfl) ?_
        obtain ⟨r_10, hc_11, hf⟩ := bd1_s hf
        refine ucVi (As := [.int x3]) (rest := []) ⟨hx, hb, hml, hown, htb⟩ hK hP hD hS hA (fun hs => c_S_blockMapStands hc_11) (cwV 1 htb (gV tw_542 tw_544 tw_21 tw_73 tw_545) rfl rfl rfl (by decide +kernel) ⟨Nat.le_of_ble_eq_true rfl, Nat.le_of_ble_eq_true rfl⟩) 6 3 rfl rfl rfl rfl rfl hl.1 (Nat.le_of_ble_eq_true rfl) d_S_mapsStand_19 ⟨Nat.zero_le _, Nat.zero_le _⟩ (fun H locs hP hD hS => ?_)
        refine lv_if_eq (tgt := 50) hx hb d_S_mapsStand_22 (by decide) (fun c_12 => ?_) (fun c_12 => ?_)
        · have hf := ite_t c_12 hf
          refine lv_iconst (v := 0) hx hb d_S_mapsStand_50 (by decide) ?_
          cases hf
          exact hret _ _ _ _ (Or.inl rfl) hP hD hS d_S_mapsStand_51
        · have hf := ite_f c_12 hf
          refine lv_aload_n hx hb d_S_mapsStand_25 rfl (lv_at hl 0 rfl) ?_
          refine va_get (D := (dC, dI)) (ci := 3) (v := .ref (h 1)) (C := R_S) (T := T_S) (N := 10) hx hb htb in_S hown hK hP 6 rfl rfl 0 (by decide) (htb _ tw_176) (fun _ h9 => h9) rfl d_S_mapsStand_26 ?_
          refine lv_aload_n hx hb d_S_mapsStand_29 rfl (lv_at hl 0 rfl) ?_
          refine va_get (D := (dC, dI)) (ci := 3) (v := .ref (h 3)) (C := R_S) (T := T_S) (N := 10) hx hb htb in_S hown hK hP 6 rfl rfl 1 (by decide) (htb _ tw_177) (fun _ h9 => h9) rfl d_S_mapsStand_30 ?_
          refine lv_iload_n hx hb d_S_mapsStand_33 rfl (lv_at hl 3 rfl) ?_
          obtain ⟨r_13, hc_14, hf⟩ := bd1_s hf
          refine ucVl (As := [.int x3]) (rest := [.ref (h 1)]) ⟨hx, hb, hml, hown, htb⟩ hK hP hD hS hA (fun hs => c_L_inodeMap hc_14) (cwV 1 htb (gV tw_562 tw_563 tw_564 tw_71 tw_565) rfl rfl rfl (by decide +kernel) ⟨Nat.le_of_ble_eq_true rfl, Nat.le_of_ble_eq_true rfl⟩) 3 2 rfl rfl rfl rfl rfl hl.1 (Nat.le_of_ble_eq_true rfl) d_S_mapsStand_34 ⟨Nat.zero_le _, Nat.zero_le _⟩ (fun H locs hP hD hS => ?_)
          refine lv_aload_n hx hb d_S_mapsStand_37 rfl (lv_at hl 0 rfl) ?_
          refine va_get (D := (dC, dI)) (ci := 3) (v := .ref (h 3)) (C := R_S) (T := T_S) (N := 10) hx hb htb in_S hown hK hP 6 rfl rfl 1 (by decide) (htb _ tw_177) (fun _ h9 => h9) rfl d_S_mapsStand_38 ?_
          obtain ⟨r_15, hc_16, hf⟩ := bd1_s hf
          refine ucVi (As := []) (rest := [.long r_13, .ref (h 1)]) ⟨hx, hb, hml, hown, htb⟩ hK hP hD hS hA (fun hs => c_L_groupInodes hc_16) (cwV 0 htb (gV tw_348 tw_349 tw_350 tw_71 tw_351) rfl rfl rfl (by decide +kernel) ⟨Nat.le_of_ble_eq_true rfl, Nat.le_of_ble_eq_true rfl⟩) 3 2 rfl rfl rfl rfl rfl hl.1 (Nat.le_of_ble_eq_true rfl) d_S_mapsStand_41 ⟨Nat.zero_le _, Nat.zero_le _⟩ (fun H locs hP hD hS => ?_)
          obtain ⟨r_17, hc_18, hf⟩ := bd1_s hf
          refine ucVi (As := [.long r_13, .int r_15]) (rest := []) ⟨hx, hb, hml, hown, htb⟩ hK hP hD hS hA (fun hs => c_D_onesFrom hc_18) (cwV 2 htb (gV tw_558 tw_559 tw_560 tw_69 tw_561) rfl rfl rfl (by decide +kernel) ⟨Nat.le_of_ble_eq_true rfl, Nat.le_of_ble_eq_true rfl⟩) 1 0 rfl rfl rfl rfl rfl hl.1 (Nat.le_of_ble_eq_true rfl) d_S_mapsStand_44 ⟨Nat.zero_le _, Nat.zero_le _⟩ (fun H locs hP hD hS => ?_)
          refine lv_if_ne (tgt := 52) hx hb d_S_mapsStand_47 (by decide) (fun c_19 => ?_) (fun c_19 => ?_)
          · have hf := ite_f c_19 hf
            refine lv_aload_n hx hb d_S_mapsStand_52 rfl (lv_at hl 0 rfl) ?_
            refine lv_iload_n hx hb d_S_mapsStand_53 rfl (lv_at hl 3 rfl) ?_
            obtain ⟨r_20, hc_21, hf⟩ := bd1_s hf
            refine ucVi (As := [.int x3]) (rest := []) ⟨hx, hb, hml, hown, htb⟩ hK hP hD hS hA (fun hs => c_S_freeBlocks hc_21) (cwV 1 htb (gV tw_567 tw_569 tw_23 tw_73 tw_570) rfl rfl rfl (by decide +kernel) ⟨Nat.le_of_ble_eq_true rfl, Nat.le_of_ble_eq_true rfl⟩) 6 3 rfl rfl rfl rfl rfl hl.1 (Nat.le_of_ble_eq_true rfl) d_S_mapsStand_54 ⟨Nat.zero_le _, Nat.zero_le _⟩ (fun H locs hP hD hS => ?_)
            refine lv_istore (lv' := [(4, .int r_20), (0, .ref (h 6)), (1, .int x1), (2, .int x2), (3, .int x3)]) hx hb d_S_mapsStand_57 hl (by decide) rfl (fun ls hl => ?_)
            refine lv_aload_n hx hb d_S_mapsStand_59 rfl (lv_at hl 1 rfl) ?_
            refine lv_iload_n hx hb d_S_mapsStand_60 rfl (lv_at hl 4 rfl) ?_
            obtain ⟨r_22, hc_23, hf⟩ := bd1_s hf
            refine ucVi (As := [.int x3]) (rest := []) ⟨hx, hb, hml, hown, htb⟩ hK hP hD hS hA (fun hs => c_S_freeInodes hc_23) (cwV 1 htb (gV tw_571 tw_573 tw_24 tw_73 tw_574) rfl rfl rfl (by decide +kernel) ⟨Nat.le_of_ble_eq_true rfl, Nat.le_of_ble_eq_true rfl⟩) 6 3 rfl rfl rfl rfl rfl hl.1 (Nat.le_of_ble_eq_true rfl) d_S_mapsStand_61 ⟨Nat.zero_le _, Nat.zero_le _⟩ (fun H locs hP hD hS => ?_)
            refine lv_istore (lv' := [(5, .int r_22), (4, .int r_20), (0, .ref (h 6)), (1, .int x1), (2, .int x2), (3, .int x3)]) hx hb d_S_mapsStand_64 hl (by decide) rfl (fun ls hl => ?_)
            refine lv_aload_n hx hb d_S_mapsStand_66 rfl (lv_at hl 2 rfl) ?_
            refine va_get (D := (dC, dI)) (ci := 3) (v := .ref (h 3)) (C := R_S) (T := T_S) (N := 10) hx hb htb in_S hown hK hP 6 rfl rfl 1 (by decide) (htb _ tw_177) (fun _ h9 => h9) rfl d_S_mapsStand_67 ?_
            refine lv_iload_n hx hb d_S_mapsStand_70 rfl (lv_at hl 5 rfl) ?_
            refine lv_bipush (v := 12) hx hb d_S_mapsStand_71 (by decide) ?_
            refine lv_iconst (v := 2) hx hb d_S_mapsStand_73 (by decide) ?_
            obtain ⟨r_24, hc_25, hf⟩ := bd1_s hf
            refine ucVl (As := [.int x3, .int ((12 : Int32)), .int ((2 : Int32))]) (rest := []) ⟨hx, hb, hml, hown, htb⟩ hK hP hD hS hA (fun hs => c_L_described hc_25) (cwV 3 htb (gV tw_352 tw_353 tw_354 tw_71 tw_355) rfl rfl rfl (by decide +kernel) ⟨Nat.le_of_ble_eq_true rfl, Nat.le_of_ble_eq_true rfl⟩) 3 2 rfl rfl rfl rfl rfl hl.1 (Nat.le_of_ble_eq_true rfl) d_S_mapsStand_74 ⟨Nat.zero_le _, Nat.zero_le _⟩ (fun H locs hP hD hS => ?_)
            refine lv_iload hx hb d_S_mapsStand_77 (lv_at hl 1 rfl) ?_
            refine lv_i2l hx hb d_S_mapsStand_79 rfl ?_
            refine lc_ne (tgt := 123) hx hb d_S_mapsStand_80 d_S_mapsStand_81 (by decide) (fun c_26 => ?_) (fun c_26 => ?_)
            · have hf := ite_f c_26 hf
              refine lv_iconst (v := 0) hx hb d_S_mapsStand_123 (by decide) ?_
              cases hf
              exact hret _ _ _ _ (Or.inl rfl) hP hD hS d_S_mapsStand_124
            · have hf := ite_t c_26 hf
              refine lv_aload_n hx hb d_S_mapsStand_84 rfl (lv_at hl 2 rfl) ?_
              refine va_get (D := (dC, dI)) (ci := 3) (v := .ref (h 3)) (C := R_S) (T := T_S) (N := 10) hx hb htb in_S hown hK hP 6 rfl rfl 1 (by decide) (htb _ tw_177) (fun _ h9 => h9) rfl d_S_mapsStand_85 ?_
              refine lv_iload_n hx hb d_S_mapsStand_88 rfl (lv_at hl 5 rfl) ?_
              refine lv_bipush (v := 14) hx hb d_S_mapsStand_89 (by decide) ?_
              refine lv_iconst (v := 2) hx hb d_S_mapsStand_91 (by decide) ?_
              obtain ⟨r_27, hc_28, hf⟩ := bd1_s hf
              refine ucVl (As := [.int x3, .int ((14 : Int32)), .int ((2 : Int32))]) (rest := []) ⟨hx, hb, hml, hown, htb⟩ hK hP hD hS hA (fun hs => c_L_described hc_28) (cwV 3 htb (gV tw_352 tw_353 tw_354 tw_71 tw_355) rfl rfl rfl (by decide +kernel) ⟨Nat.le_of_ble_eq_true rfl, Nat.le_of_ble_eq_true rfl⟩) 3 2 rfl rfl rfl rfl rfl hl.1 (Nat.le_of_ble_eq_true rfl) d_S_mapsStand_92 ⟨Nat.zero_le _, Nat.zero_le _⟩ (fun H locs hP hD hS => ?_)
              refine lv_iload hx hb d_S_mapsStand_95 (lv_at hl 0 rfl) ?_
              refine lv_i2l hx hb d_S_mapsStand_97 rfl ?_
              refine lc_ne (tgt := 123) hx hb d_S_mapsStand_98 d_S_mapsStand_99 (by decide) (fun c_29 => ?_) (fun c_29 => ?_)
              · have hf := ite_f c_29 hf
                refine lv_iconst (v := 0) hx hb d_S_mapsStand_123 (by decide) ?_
                cases hf
                exact hret _ _ _ _ (Or.inl rfl) hP hD hS d_S_mapsStand_124
              · have hf := ite_t c_29 hf
                refine lv_aload_n hx hb d_S_mapsStand_102 rfl (lv_at hl 2 rfl) ?_
                refine va_get (D := (dC, dI)) (ci := 3) (v := .ref (h 3)) (C := R_S) (T := T_S) (N := 10) hx hb htb in_S hown hK hP 6 rfl rfl 1 (by decide) (htb _ tw_177) (fun _ h9 => h9) rfl d_S_mapsStand_103 ?_
                refine lv_iload_n hx hb d_S_mapsStand_106 rfl (lv_at hl 5 rfl) ?_
                refine lv_bipush (v := 16) hx hb d_S_mapsStand_107 (by decide) ?_
                refine lv_iconst (v := 2) hx hb d_S_mapsStand_109 (by decide) ?_
                obtain ⟨r_30, hc_31, hf⟩ := bd1_s hf
                refine ucVl (As := [.int x3, .int ((16 : Int32)), .int ((2 : Int32))]) (rest := []) ⟨hx, hb, hml, hown, htb⟩ hK hP hD hS hA (fun hs => c_L_described hc_31) (cwV 3 htb (gV tw_352 tw_353 tw_354 tw_71 tw_355) rfl rfl rfl (by decide +kernel) ⟨Nat.le_of_ble_eq_true rfl, Nat.le_of_ble_eq_true rfl⟩) 3 2 rfl rfl rfl rfl rfl hl.1 (Nat.le_of_ble_eq_true rfl) d_S_mapsStand_110 ⟨Nat.zero_le _, Nat.zero_le _⟩ (fun H locs hP hD hS => ?_)
                refine lv_aload_n hx hb d_S_mapsStand_113 rfl (lv_at hl 2 rfl) ?_
                refine lv_iload_n hx hb d_S_mapsStand_114 rfl (lv_at hl 5 rfl) ?_
                obtain ⟨r_32, hc_33, hf⟩ := bd1_s hf
                refine ucVi (As := [.int x3]) (rest := [.long r_30]) ⟨hx, hb, hml, hown, htb⟩ hK hP hD hS hA (fun hs => c_S_directories hc_33) (cwV 1 htb (gV tw_575 tw_577 tw_25 tw_73 tw_578) rfl rfl rfl (by decide +kernel) ⟨Nat.le_of_ble_eq_true rfl, Nat.le_of_ble_eq_true rfl⟩) 6 3 rfl rfl rfl rfl rfl hl.1 (Nat.le_of_ble_eq_true rfl) d_S_mapsStand_115 ⟨Nat.zero_le _, Nat.zero_le _⟩ (fun H locs hP hD hS => ?_)
                refine lv_i2l hx hb d_S_mapsStand_118 rfl ?_
                refine lc_eq (tgt := 125) hx hb d_S_mapsStand_119 d_S_mapsStand_120 (by decide) (fun c_34 => ?_) (fun c_34 => ?_)
                · have hf := ite_t c_34 hf
                  refine lv_iload_n hx hb d_S_mapsStand_125 rfl (lv_at hl 3 rfl) ?_
                  refine lv_iload hx hb d_S_mapsStand_126 (lv_at hl 1 rfl) ?_
                  refine lv_iadd hx hb d_S_mapsStand_128 ?_
                  obtain ⟨v1_35, ev1_35, hf⟩ := lt1_s hf
                  refine lv_eqi ev1_35 ?_
                  refine lv_istore_n (lv' := [(1, .int v1_35), (5, .int r_22), (4, .int r_20), (0, .ref (h 6)), (2, .int x2), (3, .int x3)]) hx hb d_S_mapsStand_129 rfl hl (by decide) rfl (fun ls hl => ?_)
                  refine lv_iload_n hx hb d_S_mapsStand_130 rfl (lv_at hl 4 rfl) ?_
                  refine lv_iload hx hb d_S_mapsStand_131 (lv_at hl 1 rfl) ?_
                  refine lv_iadd hx hb d_S_mapsStand_133 ?_
                  obtain ⟨v2_36, ev2_36, hf⟩ := lt1_s hf
                  refine lv_eqi ev2_36 ?_
                  refine lv_istore_n (lv' := [(2, .int v2_36), (1, .int v1_35), (5, .int r_22), (4, .int r_20), (0, .ref (h 6)), (3, .int x3)]) hx hb d_S_mapsStand_134 rfl hl (by decide) rfl (fun ls hl => ?_)
                  obtain ⟨v3_37, ev3_37, hf⟩ := lt1_s hf
                  refine lv_iinc (v := v3_37) (lv' := [(3, .int v3_37), (2, .int v2_36), (1, .int v1_35), (5, .int r_22), (4, .int r_20), (0, .ref (h 6))]) hx hb d_S_mapsStand_135 hl (k := 5) rfl (by rw [← ev3_37]; rfl) (by decide) rfl (fun ls hl => ?_)
                  refine lv_goto (tgt := 6) hx hb d_S_mapsStand_138 (by decide) ?_
                  exact ih_6 v1_35 v2_36 v3_37 _ _ _ hf hP hD hS (lv_sub hl [5, 2, 1, 0] rfl)
                · have hf := ite_f c_34 hf
                  refine lv_iconst (v := 0) hx hb d_S_mapsStand_123 (by decide) ?_
                  cases hf
                  exact hret _ _ _ _ (Or.inl rfl) hP hD hS d_S_mapsStand_124
          · have hf := ite_t c_19 hf
            refine lv_iconst (v := 0) hx hb d_S_mapsStand_50 (by decide) ?_
            cases hf
            exact hret _ _ _ _ (Or.inl rfl) hP hD hS d_S_mapsStand_51
  unfold f_S_mapsStand at hf
  refine lv_iconst (v := 0) hx hb d_S_mapsStand_0 (by decide) ?_
  refine lv_istore_n (lv' := [(1, .int ((0 : Int32))), (0, .ref (h 6))]) hx hb d_S_mapsStand_1 rfl hl (by decide) rfl (fun ls hl => ?_)
  refine lv_iconst (v := 0) hx hb d_S_mapsStand_2 (by decide) ?_
  refine lv_istore_n (lv' := [(2, .int ((0 : Int32))), (1, .int ((0 : Int32))), (0, .ref (h 6))]) hx hb d_S_mapsStand_3 rfl hl (by decide) rfl (fun ls hl => ?_)
  refine lv_iconst (v := 0) hx hb d_S_mapsStand_4 (by decide) ?_
  refine lv_istore_n (lv' := [(3, .int ((0 : Int32))), (2, .int ((0 : Int32))), (1, .int ((0 : Int32))), (0, .ref (h 6))]) hx hb d_S_mapsStand_5 rfl hl (by decide) rfl (fun ls hl => ?_)
  exact hj_6 N ((0 : Int32)) ((0 : Int32)) ((0 : Int32)) _ _ _ hf hP hD hS (lv_sub hl [3, 2, 1, 0] rfl)
set_option maxHeartbeats 4000000 in
set_option maxRecDepth 100000 in
theorem c_S_lateFault {l : Launch} {dC : Nat → ClassId} {dI : Nat → Nat → Nat} {N : Nat} {h : Nat → Nat} {cI : ClassId} {cL : ClassId} {NW : Nat} {bk : Int32} {sz : Int32} {wd : Nat → Int64} {mb : Nat → Int32} {gB : Int32} {gI : Int32} {gN : Int32} {iN : Int32} {dr : Int32} {es : Int64} {of : Int64} {od : Int32} {pl : Int64} {hd : Int64} {tk : Nat → Int32} {kn : Nat → Int32} {li : Nat → Int32} {pa : Nat → Int32} {ins : Nat → Int32} {cm : Int32} {fd : Int32} {hr : Int32} {hs : Nat} {r : Int32} (hf : f_S_lateFault N NW bk sz wd mb gB gI gN iN tk kn li ins cm = some (r)) : Met l y_S_lateFault ws_S_lateFault { frames := 4, cells := 0, slots := 0, locals := 99 } (PcU (dC, dI) clAll [(cI, .int), (cL, .long)] (wC h cI cL NW bk sz wd mb gB gI gN iN dr es of od pl hd tk kn li pa ins cm fd hr) hs [.ref (h 6)]) (QUi (dC, dI) clAll [(cI, .int), (cL, .long)] (wC h cI cL NW bk sz wd mb gB gI gN iN dr es of od pl hd tk kn li pa ins cm fd hr) (wC h cI cL NW bk sz wd mb gB gI gN iN dr es of od pl hd tk kn li pa ins cm fd hr) hs r) 0 0 (va_A (wC h cI cL NW bk sz wd mb gB gI gN iN dr es of od pl hd tk kn li pa ins cm fd hr) hs) := by
  refine mUi (cc := b_S_lateFault) (maxL := 1) (by decide) rfl (Nat.le_of_ble_eq_true rfl) ?_
  intro p e s m args below meth c Q hx hb hml hts hown A hA hK hP hD hS hret ls hl
  have htb : ∀ w ∈ TB, w.before args s = true := fun w h => hts w (List.mem_cons_of_mem _ h)
  have hl : lv_has ls 1 [(0, .ref (h 6))] := hl
  unfold f_S_lateFault at hf
  refine lv_aload_n hx hb d_S_lateFault_0 rfl (lv_at hl 0 rfl) ?_
  obtain ⟨r_1, hc_2, hf⟩ := bd1_s hf
  refine ucVi (As := []) (rest := []) ⟨hx, hb, hml, hown, htb⟩ hK hP hD hS hA (fun hs => c_S_linksStand hc_2) (cwV 0 htb (gV tw_526 tw_528 tw_17 tw_73 tw_529) rfl rfl rfl (by decide +kernel) ⟨Nat.le_of_ble_eq_true rfl, Nat.le_of_ble_eq_true rfl⟩) 6 3 rfl rfl rfl rfl rfl hl.1 (Nat.le_of_ble_eq_true rfl) d_S_lateFault_1 ⟨Nat.zero_le _, Nat.zero_le _⟩ (fun H locs hP hD hS => ?_)
  refine lv_if_ne (tgt := 10) hx hb d_S_lateFault_4 (by decide) (fun c_3 => ?_) (fun c_3 => ?_)
  · have hf := ite_f c_3 hf
    refine lv_aload_n hx hb d_S_lateFault_10 rfl (lv_at hl 0 rfl) ?_
    obtain ⟨r_4, hc_5, hf⟩ := bd1_s hf
    refine ucVi (As := []) (rest := []) ⟨hx, hb, hml, hown, htb⟩ hK hP hD hS hA (fun hs => c_S_inodesStand hc_5) (cwV 0 htb (gV tw_530 tw_532 tw_18 tw_73 tw_533) rfl rfl rfl (by decide +kernel) ⟨Nat.le_of_ble_eq_true rfl, Nat.le_of_ble_eq_true rfl⟩) 6 3 rfl rfl rfl rfl rfl hl.1 (Nat.le_of_ble_eq_true rfl) d_S_lateFault_11 ⟨Nat.zero_le _, Nat.zero_le _⟩ (fun H locs hP hD hS => ?_)
    refine lv_if_ne (tgt := 20) hx hb d_S_lateFault_14 (by decide) (fun c_6 => ?_) (fun c_6 => ?_)
    · have hf := ite_f c_6 hf
      refine lv_aload_n hx hb d_S_lateFault_20 rfl (lv_at hl 0 rfl) ?_
      obtain ⟨r_7, hc_8, hf⟩ := bd1_s hf
      refine ucVi (As := []) (rest := []) ⟨hx, hb, hml, hown, htb⟩ hK hP hD hS hA (fun hs => c_S_mapsStand hc_8) (cwV 0 htb (gV tw_538 tw_540 tw_20 tw_73 tw_541) rfl rfl rfl (by decide +kernel) ⟨Nat.le_of_ble_eq_true rfl, Nat.le_of_ble_eq_true rfl⟩) 6 3 rfl rfl rfl rfl rfl hl.1 (Nat.le_of_ble_eq_true rfl) d_S_lateFault_21 ⟨Nat.zero_le _, Nat.zero_le _⟩ (fun H locs hP hD hS => ?_)
      refine lv_if_eq (tgt := 31) hx hb d_S_lateFault_24 (by decide) (fun c_9 => ?_) (fun c_9 => ?_)
      · have hf := ite_t c_9 hf
        refine lv_bipush (v := 8) hx hb d_S_lateFault_31 (by decide) ?_
        cases hf
        exact hret _ _ _ _ hP hD hS d_S_lateFault_33
      · have hf := ite_f c_9 hf
        refine lv_iconst (v := 0) hx hb d_S_lateFault_27 (by decide) ?_
        refine lv_goto (tgt := 33) hx hb d_S_lateFault_28 (by decide) ?_
        cases hf
        exact hret _ _ _ _ hP hD hS d_S_lateFault_33
    · have hf := ite_t c_6 hf
      refine lv_bipush (v := 7) hx hb d_S_lateFault_17 (by decide) ?_
      cases hf
      exact hret _ _ _ _ hP hD hS d_S_lateFault_19
  · have hf := ite_t c_3 hf
    refine lv_bipush (v := 6) hx hb d_S_lateFault_7 (by decide) ?_
    cases hf
    exact hret _ _ _ _ hP hD hS d_S_lateFault_9
set_option maxHeartbeats 4000000 in
set_option maxRecDepth 100000 in
theorem c_S_firstFault {l : Launch} {dC : Nat → ClassId} {dI : Nat → Nat → Nat} {N : Nat} {h : Nat → Nat} {cI : ClassId} {cL : ClassId} {NW : Nat} {bk : Int32} {sz : Int32} {wd : Nat → Int64} {mb : Nat → Int32} {gB : Int32} {gI : Int32} {gN : Int32} {iN : Int32} {dr : Int32} {es : Int64} {of : Int64} {od : Int32} {pl : Int64} {hd : Int64} {tk : Nat → Int32} {kn : Nat → Int32} {li : Nat → Int32} {pa : Nat → Int32} {ins : Nat → Int32} {cm : Int32} {fd : Int32} {hr : Int32} {hs : Nat} {r : Int32} {mb' : Nat → Int32} {gB' : Int32} {gI' : Int32} {gN' : Int32} {iN' : Int32} {dr' : Int32} {es' : Int64} {of' : Int64} {od' : Int32} {pl' : Int64} {hd' : Int64} {tk' : Nat → Int32} {kn' : Nat → Int32} {li' : Nat → Int32} {pa' : Nat → Int32} {ins' : Nat → Int32} {cm' : Int32} {fd' : Int32} (hf : f_S_firstFault N NW bk sz wd mb gB gI gN iN dr es of od pl hd tk kn li pa ins cm fd = some (r, mb', gB', gI', gN', iN', dr', es', of', od', pl', hd', tk', kn', li', pa', ins', cm', fd')) : Met l y_S_firstFault ws_S_firstFault { frames := 5, cells := 0, slots := 0, locals := 130 } (PcU (dC, dI) clAll [(cI, .int), (cL, .long)] (wC h cI cL NW bk sz wd mb gB gI gN iN dr es of od pl hd tk kn li pa ins cm fd hr) hs [.ref (h 6)]) (QUi (dC, dI) clAll [(cI, .int), (cL, .long)] (wC h cI cL NW bk sz wd mb gB gI gN iN dr es of od pl hd tk kn li pa ins cm fd hr) (wC h cI cL NW bk sz wd mb' gB' gI' gN' iN' dr' es' of' od' pl' hd' tk' kn' li' pa' ins' cm' fd' hr) hs r) 0 0 (va_A (wC h cI cL NW bk sz wd mb gB gI gN iN dr es of od pl hd tk kn li pa ins cm fd hr) hs) := by
  refine mUi (cc := b_S_firstFault) (maxL := 1) (by decide) rfl (Nat.le_of_ble_eq_true rfl) ?_
  intro p e s m args below meth c Q hx hb hml hts hown A hA hK hP hD hS hret ls hl
  have htb : ∀ w ∈ TB, w.before args s = true := fun w h => hts w (List.mem_cons_of_mem _ h)
  have hl : lv_has ls 1 [(0, .ref (h 6))] := hl
  have hj_66 : ∀ (mb : Nat → Int32) (gB : Int32) (gI : Int32) (gN : Int32) (iN : Int32) (dr : Int32) (es : Int64) (of : Int64) (od : Int32) (pl : Int64) (hd : Int64) (tk : Nat → Int32) (kn : Nat → Int32) (li : Nat → Int32) (pa : Nat → Int32) (ins : Nat → Int32) (cm : Int32) (fd : Int32) (H : Heap) (locs : List Loc) (ls : Array Slot), f_S_firstFault_66 N NW bk sz wd mb gB gI gN iN dr es of od pl hd tk kn li pa ins cm fd = some (r, mb', gB', gI', gN', iN', dr', es', of', od', pl', hd', tk', kn', li', pa', ins', cm', fd') → va_P (dC, dI) clAll (wC h cI cL NW bk sz wd mb gB gI gN iN dr es of od pl hd tk kn li pa ins cm fd hr) H → va_D A (wC h cI cL NW bk sz wd mb gB gI gN iN dr es of od pl hd tk kn li pa ins cm fd hr) → va_S A s.heap H locs → lv_has ls 1 [(0, .ref (h 6))] → W p l e (headSpec ws_S_firstFault { frames := 5, cells := 0, slots := 0, locals := 130 }).room s m args below meth c H locs 0 0 Q (F0 m 66 ls []) := by
    intro mb gB gI gN iN dr es of od pl hd tk kn li pa ins cm fd H locs ls hf hP hD hS hl
    unfold f_S_firstFault_66 at hf
    refine lv_aload_n hx hb d_S_firstFault_66 rfl (lv_at hl 0 rfl) ?_
    refine va_get (D := (dC, dI)) (ci := 3) (v := .int fd) (C := R_S) (T := T_S) (N := 10) hx hb htb in_S hown hK hP 6 rfl rfl 9 (by decide) (htb _ tw_185) (fun _ h9 => h9) rfl d_S_firstFault_67 ?_
    refine lv_if_ne (tgt := 81) hx hb d_S_firstFault_70 (by decide) (fun c_1 => ?_) (fun c_1 => ?_)
    · have hf := ite_f c_1 hf
      refine lv_aload_n hx hb d_S_firstFault_81 rfl (lv_at hl 0 rfl) ?_
      refine va_get (D := (dC, dI)) (ci := 3) (v := .int fd) (C := R_S) (T := T_S) (N := 10) hx hb htb in_S hown hK hP 6 rfl rfl 9 (by decide) (htb _ tw_185) (fun _ h9 => h9) rfl d_S_firstFault_82 ?_
      cases hf
      exact hret _ _ _ _ hP hD hS d_S_firstFault_85
    · have hf := ite_t c_1 hf
      refine lv_aload_n hx hb d_S_firstFault_73 rfl (lv_at hl 0 rfl) ?_
      refine lv_aload_n hx hb d_S_firstFault_74 rfl (lv_at hl 0 rfl) ?_
      obtain ⟨r_2, hc_3, hf⟩ := bd1_s hf
      refine ucVi (As := []) (rest := [.ref (h 6)]) ⟨hx, hb, hml, hown, htb⟩ hK hP hD hS hA (fun hs => c_S_lateFault hc_3) (cwV 0 htb (gV tw_522 tw_524 tw_16 tw_73 tw_525) rfl rfl rfl (by decide +kernel) ⟨Nat.le_of_ble_eq_true rfl, Nat.le_of_ble_eq_true rfl⟩) 6 3 rfl rfl rfl rfl rfl hl.1 (Nat.le_of_ble_eq_true rfl) d_S_firstFault_75 ⟨Nat.zero_le _, Nat.zero_le _⟩ (fun H locs hP hD hS => ?_)
      refine va_put (D := (dC, dI)) (ci := 3) (v := .int r_2) (ty := .int) (C := R_S) (T := T_S) (N := 10) hx hb htb in_S ty_S tyok_S nm_S hown hK hP hD hS 6 rfl rfl 9 (by decide) (htb _ tw_185) (fun _ h9 => h9) rfl (by decide +kernel) rfl rfl (Nat.le_of_ble_eq_true rfl) d_S_firstFault_78 (fun H locs hP hD hS => ?_)
      have hP : va_P (dC, dI) clAll (wC h cI cL NW bk sz wd mb gB gI gN iN dr es of od pl hd tk kn li pa ins cm r_2 hr) H := hP
      have hD : va_D A (wC h cI cL NW bk sz wd mb gB gI gN iN dr es of od pl hd tk kn li pa ins cm r_2 hr) := hD
      refine lv_aload_n hx hb d_S_firstFault_81 rfl (lv_at hl 0 rfl) ?_
      refine va_get (D := (dC, dI)) (ci := 3) (v := .int r_2) (C := R_S) (T := T_S) (N := 10) hx hb htb in_S hown hK hP 6 rfl rfl 9 (by decide) (htb _ tw_185) (fun _ h9 => h9) rfl d_S_firstFault_82 ?_
      cases hf
      exact hret _ _ _ _ hP hD hS d_S_firstFault_85
  unfold f_S_firstFault at hf
  refine lv_aload_n hx hb d_S_firstFault_0 rfl (lv_at hl 0 rfl) ?_
  refine va_get (D := (dC, dI)) (ci := 3) (v := .int fd) (C := R_S) (T := T_S) (N := 10) hx hb htb in_S hown hK hP 6 rfl rfl 9 (by decide) (htb _ tw_185) (fun _ h9 => h9) rfl d_S_firstFault_1 ?_
  refine lv_iconst (v := -1) hx hb d_S_firstFault_4 (by decide) ?_
  refine lv_icmp_eq (tgt := 13) hx hb d_S_firstFault_5 (by decide) (fun c_1 => ?_) (fun c_1 => ?_)
  · have hf := ite_t c_1 hf
    refine lv_aload_n hx hb d_S_firstFault_13 rfl (lv_at hl 0 rfl) ?_
    obtain ⟨r_2, gB_3, gI_4, gN_5, iN_6, hc_7, hf⟩ := bd5_s hf
    refine ucVi (As := []) (rest := []) ⟨hx, hb, hml, hown, htb⟩ hK hP hD hS hA (fun hs => c_S_superblockStands hc_7) (cwV 0 htb (gV tw_280 tw_282 tw_1 tw_73 tw_283) rfl rfl rfl (by decide +kernel) ⟨Nat.le_of_ble_eq_true rfl, Nat.le_of_ble_eq_true rfl⟩) 6 3 rfl rfl rfl rfl rfl hl.1 (Nat.le_of_ble_eq_true rfl) d_S_firstFault_14 ⟨Nat.zero_le _, Nat.zero_le _⟩ (fun H locs hP hD hS => ?_)
    refine lv_if_ne (tgt := 28) hx hb d_S_firstFault_17 (by decide) (fun c_8 => ?_) (fun c_8 => ?_)
    · have hf := ite_f c_8 hf
      refine lv_aload_n hx hb d_S_firstFault_28 rfl (lv_at hl 0 rfl) ?_
      obtain ⟨r_9, hc_10, hf⟩ := bd1_s hf
      refine ucVi (As := []) (rest := []) ⟨hx, hb, hml, hown, htb⟩ hK hP hD hS hA (fun hs => c_S_copiesStand hc_10) (cwV 0 htb (gV tw_318 tw_320 tw_3 tw_73 tw_321) rfl rfl rfl (by decide +kernel) ⟨Nat.le_of_ble_eq_true rfl, Nat.le_of_ble_eq_true rfl⟩) 6 3 rfl rfl rfl rfl rfl hl.1 (Nat.le_of_ble_eq_true rfl) d_S_firstFault_29 ⟨Nat.zero_le _, Nat.zero_le _⟩ (fun H locs hP hD hS => ?_)
      refine lv_if_ne (tgt := 43) hx hb d_S_firstFault_32 (by decide) (fun c_11 => ?_) (fun c_11 => ?_)
      · have hf := ite_f c_11 hf
        refine lv_aload_n hx hb d_S_firstFault_43 rfl (lv_at hl 0 rfl) ?_
        obtain ⟨r_12, mb_13, tk_14, hc_15, hf⟩ := bd3_s hf
        refine ucVi (As := []) (rest := []) ⟨hx, hb, hml, hown, htb⟩ hK hP hD hS hA (fun hs => c_S_groupsStand hc_15) (cwV 0 htb (gV tw_341 tw_343 tw_5 tw_73 tw_344) rfl rfl rfl (by decide +kernel) ⟨Nat.le_of_ble_eq_true rfl, Nat.le_of_ble_eq_true rfl⟩) 6 3 rfl rfl rfl rfl rfl hl.1 (Nat.le_of_ble_eq_true rfl) d_S_firstFault_44 ⟨Nat.zero_le _, Nat.zero_le _⟩ (fun H locs hP hD hS => ?_)
        refine lv_if_ne (tgt := 58) hx hb d_S_firstFault_47 (by decide) (fun c_16 => ?_) (fun c_16 => ?_)
        · have hf := ite_f c_16 hf
          refine lv_aload_n hx hb d_S_firstFault_58 rfl (lv_at hl 0 rfl) ?_
          refine lv_aload_n hx hb d_S_firstFault_59 rfl (lv_at hl 0 rfl) ?_
          obtain ⟨r_17, dr_18, es_19, of_20, od_21, pl_22, hd_23, tk_24, kn_25, li_26, pa_27, ins_28, cm_29, hc_30, hf⟩ := bd13_s hf
          refine ucVi (As := []) (rest := [.ref (h 6)]) ⟨hx, hb, hml, hown, htb⟩ hK hP hD hS hA (fun hs => c_S_treeFault hc_30) (cwV 0 htb (gV tw_365 tw_367 tw_7 tw_73 tw_368) rfl rfl rfl (by decide +kernel) ⟨Nat.le_of_ble_eq_true rfl, Nat.le_of_ble_eq_true rfl⟩) 6 3 rfl rfl rfl rfl rfl hl.1 (Nat.le_of_ble_eq_true rfl) d_S_firstFault_60 ⟨Nat.zero_le _, Nat.zero_le _⟩ (fun H locs hP hD hS => ?_)
          refine va_put (D := (dC, dI)) (ci := 3) (v := .int r_17) (ty := .int) (C := R_S) (T := T_S) (N := 10) hx hb htb in_S ty_S tyok_S nm_S hown hK hP hD hS 6 rfl rfl 9 (by decide) (htb _ tw_185) (fun _ h9 => h9) rfl (by decide +kernel) rfl rfl (Nat.le_of_ble_eq_true rfl) d_S_firstFault_63 (fun H locs hP hD hS => ?_)
          have hP : va_P (dC, dI) clAll (wC h cI cL NW bk sz wd mb_13 gB_3 gI_4 gN_5 iN_6 dr_18 es_19 of_20 od_21 pl_22 hd_23 tk_24 kn_25 li_26 pa_27 ins_28 cm_29 r_17 hr) H := hP
          have hD : va_D A (wC h cI cL NW bk sz wd mb_13 gB_3 gI_4 gN_5 iN_6 dr_18 es_19 of_20 od_21 pl_22 hd_23 tk_24 kn_25 li_26 pa_27 ins_28 cm_29 r_17 hr) := hD
          exact hj_66 mb_13 gB_3 gI_4 gN_5 iN_6 dr_18 es_19 of_20 od_21 pl_22 hd_23 tk_24 kn_25 li_26 pa_27 ins_28 cm_29 r_17 _ _ _ hf hP hD hS (lv_sub hl [0] rfl)
        · have hf := ite_t c_16 hf
          refine lv_aload_n hx hb d_S_firstFault_50 rfl (lv_at hl 0 rfl) ?_
          refine lv_iconst (v := 3) hx hb d_S_firstFault_51 (by decide) ?_
          refine va_put (D := (dC, dI)) (ci := 3) (v := .int ((3 : Int32))) (ty := .int) (C := R_S) (T := T_S) (N := 10) hx hb htb in_S ty_S tyok_S nm_S hown hK hP hD hS 6 rfl rfl 9 (by decide) (htb _ tw_185) (fun _ h9 => h9) rfl (by decide +kernel) rfl rfl (Nat.le_of_ble_eq_true rfl) d_S_firstFault_52 (fun H locs hP hD hS => ?_)
          have hP : va_P (dC, dI) clAll (wC h cI cL NW bk sz wd mb_13 gB_3 gI_4 gN_5 iN_6 dr es of od pl hd tk_14 kn li pa ins cm ((3 : Int32)) hr) H := hP
          have hD : va_D A (wC h cI cL NW bk sz wd mb_13 gB_3 gI_4 gN_5 iN_6 dr es of od pl hd tk_14 kn li pa ins cm ((3 : Int32)) hr) := hD
          refine lv_goto (tgt := 66) hx hb d_S_firstFault_55 (by decide) ?_
          exact hj_66 mb_13 gB_3 gI_4 gN_5 iN_6 dr es of od pl hd tk_14 kn li pa ins cm ((3 : Int32)) _ _ _ hf hP hD hS (lv_sub hl [0] rfl)
      · have hf := ite_t c_11 hf
        refine lv_aload_n hx hb d_S_firstFault_35 rfl (lv_at hl 0 rfl) ?_
        refine lv_iconst (v := 2) hx hb d_S_firstFault_36 (by decide) ?_
        refine va_put (D := (dC, dI)) (ci := 3) (v := .int ((2 : Int32))) (ty := .int) (C := R_S) (T := T_S) (N := 10) hx hb htb in_S ty_S tyok_S nm_S hown hK hP hD hS 6 rfl rfl 9 (by decide) (htb _ tw_185) (fun _ h9 => h9) rfl (by decide +kernel) rfl rfl (Nat.le_of_ble_eq_true rfl) d_S_firstFault_37 (fun H locs hP hD hS => ?_)
        have hP : va_P (dC, dI) clAll (wC h cI cL NW bk sz wd mb gB_3 gI_4 gN_5 iN_6 dr es of od pl hd tk kn li pa ins cm ((2 : Int32)) hr) H := hP
        have hD : va_D A (wC h cI cL NW bk sz wd mb gB_3 gI_4 gN_5 iN_6 dr es of od pl hd tk kn li pa ins cm ((2 : Int32)) hr) := hD
        refine lv_goto (tgt := 66) hx hb d_S_firstFault_40 (by decide) ?_
        exact hj_66 mb gB_3 gI_4 gN_5 iN_6 dr es of od pl hd tk kn li pa ins cm ((2 : Int32)) _ _ _ hf hP hD hS (lv_sub hl [0] rfl)
    · have hf := ite_t c_8 hf
      refine lv_aload_n hx hb d_S_firstFault_20 rfl (lv_at hl 0 rfl) ?_
      refine lv_iconst (v := 1) hx hb d_S_firstFault_21 (by decide) ?_
      refine va_put (D := (dC, dI)) (ci := 3) (v := .int ((1 : Int32))) (ty := .int) (C := R_S) (T := T_S) (N := 10) hx hb htb in_S ty_S tyok_S nm_S hown hK hP hD hS 6 rfl rfl 9 (by decide) (htb _ tw_185) (fun _ h9 => h9) rfl (by decide +kernel) rfl rfl (Nat.le_of_ble_eq_true rfl) d_S_firstFault_22 (fun H locs hP hD hS => ?_)
      have hP : va_P (dC, dI) clAll (wC h cI cL NW bk sz wd mb gB_3 gI_4 gN_5 iN_6 dr es of od pl hd tk kn li pa ins cm ((1 : Int32)) hr) H := hP
      have hD : va_D A (wC h cI cL NW bk sz wd mb gB_3 gI_4 gN_5 iN_6 dr es of od pl hd tk kn li pa ins cm ((1 : Int32)) hr) := hD
      refine lv_goto (tgt := 66) hx hb d_S_firstFault_25 (by decide) ?_
      exact hj_66 mb gB_3 gI_4 gN_5 iN_6 dr es of od pl hd tk kn li pa ins cm ((1 : Int32)) _ _ _ hf hP hD hS (lv_sub hl [0] rfl)
  · have hf := ite_f c_1 hf
    refine lv_aload_n hx hb d_S_firstFault_8 rfl (lv_at hl 0 rfl) ?_
    refine va_get (D := (dC, dI)) (ci := 3) (v := .int fd) (C := R_S) (T := T_S) (N := 10) hx hb htb in_S hown hK hP 6 rfl rfl 9 (by decide) (htb _ tw_185) (fun _ h9 => h9) rfl d_S_firstFault_9 ?_
    cases hf
    exact hret _ _ _ _ hP hD hS d_S_firstFault_12
end
section
theorem d_V_beginAgain_0 : decode b_V_beginAgain 0 = .ok (.aload_n 0, 1) := by decide +kernel
theorem d_V_beginAgain_1 : decode b_V_beginAgain 1 = .ok (.getfield 41, 3) := by decide +kernel
theorem d_V_beginAgain_4 : decode b_V_beginAgain 4 = .ok (.invokevirtual 136, 3) := by decide +kernel
theorem d_V_beginAgain_7 : decode b_V_beginAgain 7 = .ok (.aload_n 0, 1) := by decide +kernel
theorem d_V_beginAgain_8 : decode b_V_beginAgain 8 = .ok (.iconst 2, 1) := by decide +kernel
theorem d_V_beginAgain_9 : decode b_V_beginAgain 9 = .ok (.putfield 45, 3) := by decide +kernel
theorem d_V_beginAgain_12 : decode b_V_beginAgain 12 = .ok (.return_, 1) := by decide +kernel
theorem d_V_put_0 : decode b_V_put 0 = .ok (.iload_n 2, 1) := by decide +kernel
theorem d_V_put_1 : decode b_V_put 1 = .ok (.iconst 1, 1) := by decide +kernel
theorem d_V_put_2 : decode b_V_put 2 = .ok (.if_icmp .lt 22, 3) := by decide +kernel
theorem d_V_put_5 : decode b_V_put 5 = .ok (.iload_n 2, 1) := by decide +kernel
theorem d_V_put_6 : decode b_V_put 6 = .ok (.bipush 8, 2) := by decide +kernel
theorem d_V_put_8 : decode b_V_put 8 = .ok (.if_icmp .gt 16, 3) := by decide +kernel
theorem d_V_put_11 : decode b_V_put 11 = .ok (.aload_n 0, 1) := by decide +kernel
theorem d_V_put_12 : decode b_V_put 12 = .ok (.getfield 14, 3) := by decide +kernel
theorem d_V_put_15 : decode b_V_put 15 = .ok (.iload_n 1, 1) := by decide +kernel
theorem d_V_put_16 : decode b_V_put 16 = .ok (.i2l, 1) := by decide +kernel
theorem d_V_put_17 : decode b_V_put 17 = .ok (.iload_n 2, 1) := by decide +kernel
theorem d_V_put_18 : decode b_V_put 18 = .ok (.invokevirtual 49, 3) := by decide +kernel
theorem d_V_put_21 : decode b_V_put 21 = .ok (.ifCond .ne 5, 3) := by decide +kernel
theorem d_V_put_24 : decode b_V_put 24 = .ok (.iconst 0, 1) := by decide +kernel
theorem d_V_put_25 : decode b_V_put 25 = .ok (.ireturn, 1) := by decide +kernel
theorem d_V_put_26 : decode b_V_put 26 = .ok (.aload_n 0, 1) := by decide +kernel
theorem d_V_put_27 : decode b_V_put 27 = .ok (.getfield 14, 3) := by decide +kernel
theorem d_V_put_30 : decode b_V_put 30 = .ok (.iload_n 1, 1) := by decide +kernel
theorem d_V_put_31 : decode b_V_put 31 = .ok (.i2l, 1) := by decide +kernel
theorem d_V_put_32 : decode b_V_put 32 = .ok (.iload_n 2, 1) := by decide +kernel
theorem d_V_put_33 : decode b_V_put 33 = .ok (.lload_n 3, 1) := by decide +kernel
theorem d_V_put_34 : decode b_V_put 34 = .ok (.invokevirtual 53, 3) := by decide +kernel
theorem d_V_put_37 : decode b_V_put 37 = .ok (.aload_n 0, 1) := by decide +kernel
theorem d_V_put_38 : decode b_V_put 38 = .ok (.invokevirtual 57, 3) := by decide +kernel
theorem d_V_put_41 : decode b_V_put 41 = .ok (.iconst 1, 1) := by decide +kernel
theorem d_V_put_42 : decode b_V_put 42 = .ok (.ireturn, 1) := by decide +kernel
theorem d_V_fill_0 : decode b_V_fill 0 = .ok (.aload_n 0, 1) := by decide +kernel
theorem d_V_fill_1 : decode b_V_fill 1 = .ok (.getfield 14, 3) := by decide +kernel
theorem d_V_fill_4 : decode b_V_fill 4 = .ok (.iload_n 1, 1) := by decide +kernel
theorem d_V_fill_5 : decode b_V_fill 5 = .ok (.i2l, 1) := by decide +kernel
theorem d_V_fill_6 : decode b_V_fill 6 = .ok (.iload_n 2, 1) := by decide +kernel
theorem d_V_fill_7 : decode b_V_fill 7 = .ok (.invokevirtual 49, 3) := by decide +kernel
theorem d_V_fill_10 : decode b_V_fill 10 = .ok (.ifCond .ne 5, 3) := by decide +kernel
theorem d_V_fill_13 : decode b_V_fill 13 = .ok (.iconst 0, 1) := by decide +kernel
theorem d_V_fill_14 : decode b_V_fill 14 = .ok (.ireturn, 1) := by decide +kernel
theorem d_V_fill_15 : decode b_V_fill 15 = .ok (.aload_n 0, 1) := by decide +kernel
theorem d_V_fill_16 : decode b_V_fill 16 = .ok (.getfield 14, 3) := by decide +kernel
theorem d_V_fill_19 : decode b_V_fill 19 = .ok (.iload_n 1, 1) := by decide +kernel
theorem d_V_fill_20 : decode b_V_fill 20 = .ok (.iload_n 2, 1) := by decide +kernel
theorem d_V_fill_21 : decode b_V_fill 21 = .ok (.iload_n 3, 1) := by decide +kernel
theorem d_V_fill_22 : decode b_V_fill 22 = .ok (.invokevirtual 60, 3) := by decide +kernel
theorem d_V_fill_25 : decode b_V_fill 25 = .ok (.aload_n 0, 1) := by decide +kernel
theorem d_V_fill_26 : decode b_V_fill 26 = .ok (.invokevirtual 57, 3) := by decide +kernel
theorem d_V_fill_29 : decode b_V_fill 29 = .ok (.iconst 1, 1) := by decide +kernel
theorem d_V_fill_30 : decode b_V_fill 30 = .ok (.ireturn, 1) := by decide +kernel
theorem d_V_copy_0 : decode b_V_copy 0 = .ok (.aload_n 0, 1) := by decide +kernel
theorem d_V_copy_1 : decode b_V_copy 1 = .ok (.getfield 14, 3) := by decide +kernel
theorem d_V_copy_4 : decode b_V_copy 4 = .ok (.iload_n 1, 1) := by decide +kernel
theorem d_V_copy_5 : decode b_V_copy 5 = .ok (.i2l, 1) := by decide +kernel
theorem d_V_copy_6 : decode b_V_copy 6 = .ok (.iload_n 3, 1) := by decide +kernel
theorem d_V_copy_7 : decode b_V_copy 7 = .ok (.invokevirtual 49, 3) := by decide +kernel
theorem d_V_copy_10 : decode b_V_copy 10 = .ok (.ifCond .eq 16, 3) := by decide +kernel
theorem d_V_copy_13 : decode b_V_copy 13 = .ok (.aload_n 0, 1) := by decide +kernel
theorem d_V_copy_14 : decode b_V_copy 14 = .ok (.getfield 14, 3) := by decide +kernel
theorem d_V_copy_17 : decode b_V_copy 17 = .ok (.iload_n 2, 1) := by decide +kernel
theorem d_V_copy_18 : decode b_V_copy 18 = .ok (.i2l, 1) := by decide +kernel
theorem d_V_copy_19 : decode b_V_copy 19 = .ok (.iload_n 3, 1) := by decide +kernel
theorem d_V_copy_20 : decode b_V_copy 20 = .ok (.invokevirtual 49, 3) := by decide +kernel
theorem d_V_copy_23 : decode b_V_copy 23 = .ok (.ifCond .ne 5, 3) := by decide +kernel
theorem d_V_copy_26 : decode b_V_copy 26 = .ok (.iconst 0, 1) := by decide +kernel
theorem d_V_copy_27 : decode b_V_copy 27 = .ok (.ireturn, 1) := by decide +kernel
theorem d_V_copy_28 : decode b_V_copy 28 = .ok (.aload_n 0, 1) := by decide +kernel
theorem d_V_copy_29 : decode b_V_copy 29 = .ok (.getfield 14, 3) := by decide +kernel
theorem d_V_copy_32 : decode b_V_copy 32 = .ok (.iload_n 1, 1) := by decide +kernel
theorem d_V_copy_33 : decode b_V_copy 33 = .ok (.iload_n 2, 1) := by decide +kernel
theorem d_V_copy_34 : decode b_V_copy 34 = .ok (.iload_n 3, 1) := by decide +kernel
theorem d_V_copy_35 : decode b_V_copy 35 = .ok (.invokevirtual 64, 3) := by decide +kernel
theorem d_V_copy_38 : decode b_V_copy 38 = .ok (.aload_n 0, 1) := by decide +kernel
theorem d_V_copy_39 : decode b_V_copy 39 = .ok (.invokevirtual 57, 3) := by decide +kernel
theorem d_V_copy_42 : decode b_V_copy 42 = .ok (.iconst 1, 1) := by decide +kernel
theorem d_V_copy_43 : decode b_V_copy 43 = .ok (.ireturn, 1) := by decide +kernel
theorem d_V_byteAt_0 : decode b_V_byteAt 0 = .ok (.aload_n 0, 1) := by decide +kernel
theorem d_V_byteAt_1 : decode b_V_byteAt 1 = .ok (.getfield 14, 3) := by decide +kernel
theorem d_V_byteAt_4 : decode b_V_byteAt 4 = .ok (.iload_n 1, 1) := by decide +kernel
theorem d_V_byteAt_5 : decode b_V_byteAt 5 = .ok (.i2l, 1) := by decide +kernel
theorem d_V_byteAt_6 : decode b_V_byteAt 6 = .ok (.iconst 1, 1) := by decide +kernel
theorem d_V_byteAt_7 : decode b_V_byteAt 7 = .ok (.invokevirtual 49, 3) := by decide +kernel
theorem d_V_byteAt_10 : decode b_V_byteAt 10 = .ok (.ifCond .eq 17, 3) := by decide +kernel
theorem d_V_byteAt_13 : decode b_V_byteAt 13 = .ok (.aload_n 0, 1) := by decide +kernel
theorem d_V_byteAt_14 : decode b_V_byteAt 14 = .ok (.getfield 14, 3) := by decide +kernel
theorem d_V_byteAt_17 : decode b_V_byteAt 17 = .ok (.iload_n 1, 1) := by decide +kernel
theorem d_V_byteAt_18 : decode b_V_byteAt 18 = .ok (.i2l, 1) := by decide +kernel
theorem d_V_byteAt_19 : decode b_V_byteAt 19 = .ok (.iconst 1, 1) := by decide +kernel
theorem d_V_byteAt_20 : decode b_V_byteAt 20 = .ok (.invokevirtual 67, 3) := by decide +kernel
theorem d_V_byteAt_23 : decode b_V_byteAt 23 = .ok (.l2i, 1) := by decide +kernel
theorem d_V_byteAt_24 : decode b_V_byteAt 24 = .ok (.goto 4, 3) := by decide +kernel
theorem d_V_byteAt_27 : decode b_V_byteAt 27 = .ok (.iconst (-1), 1) := by decide +kernel
theorem d_V_byteAt_28 : decode b_V_byteAt 28 = .ok (.ireturn, 1) := by decide +kernel
theorem d_V_fault_0 : decode b_V_fault 0 = .ok (.aload_n 0, 1) := by decide +kernel
theorem d_V_fault_1 : decode b_V_fault 1 = .ok (.getfield 41, 3) := by decide +kernel
theorem d_V_fault_4 : decode b_V_fault 4 = .ok (.invokevirtual 71, 3) := by decide +kernel
theorem d_V_fault_7 : decode b_V_fault 7 = .ok (.ireturn, 1) := by decide +kernel
theorem d_V_countItems_0 : decode b_V_countItems 0 = .ok (.iconst 0, 1) := by decide +kernel
theorem d_V_countItems_1 : decode b_V_countItems 1 = .ok (.istore_n 1, 1) := by decide +kernel
theorem d_V_countItems_2 : decode b_V_countItems 2 = .ok (.aload_n 0, 1) := by decide +kernel
theorem d_V_countItems_3 : decode b_V_countItems 3 = .ok (.getfield 32, 3) := by decide +kernel
theorem d_V_countItems_6 : decode b_V_countItems 6 = .ok (.aload_n 0, 1) := by decide +kernel
theorem d_V_countItems_7 : decode b_V_countItems 7 = .ok (.getfield 45, 3) := by decide +kernel
theorem d_V_countItems_10 : decode b_V_countItems 10 = .ok (.invokevirtual 130, 3) := by decide +kernel
theorem d_V_countItems_13 : decode b_V_countItems 13 = .ok (.iconst 0, 1) := by decide +kernel
theorem d_V_countItems_14 : decode b_V_countItems 14 = .ok (.istore_n 2, 1) := by decide +kernel
theorem d_V_countItems_15 : decode b_V_countItems 15 = .ok (.iload_n 2, 1) := by decide +kernel
theorem d_V_countItems_16 : decode b_V_countItems 16 = .ok (.ldc 139, 2) := by decide +kernel
theorem d_V_countItems_18 : decode b_V_countItems 18 = .ok (.if_icmp .ge 39, 3) := by decide +kernel
theorem d_V_countItems_21 : decode b_V_countItems 21 = .ok (.aload_n 0, 1) := by decide +kernel
theorem d_V_countItems_22 : decode b_V_countItems 22 = .ok (.getfield 32, 3) := by decide +kernel
theorem d_V_countItems_25 : decode b_V_countItems 25 = .ok (.invokevirtual 140, 3) := by decide +kernel
theorem d_V_countItems_28 : decode b_V_countItems 28 = .ok (.ifCond .eq 29, 3) := by decide +kernel
theorem d_V_countItems_31 : decode b_V_countItems 31 = .ok (.aload_n 0, 1) := by decide +kernel
theorem d_V_countItems_32 : decode b_V_countItems 32 = .ok (.getfield 32, 3) := by decide +kernel
theorem d_V_countItems_35 : decode b_V_countItems 35 = .ok (.invokevirtual 144, 3) := by decide +kernel
theorem d_V_countItems_38 : decode b_V_countItems 38 = .ok (.ifCond .eq 6, 3) := by decide +kernel
theorem d_V_countItems_41 : decode b_V_countItems 41 = .ok (.iinc 1 1, 3) := by decide +kernel
theorem d_V_countItems_44 : decode b_V_countItems 44 = .ok (.aload_n 0, 1) := by decide +kernel
theorem d_V_countItems_45 : decode b_V_countItems 45 = .ok (.getfield 32, 3) := by decide +kernel
theorem d_V_countItems_48 : decode b_V_countItems 48 = .ok (.invokevirtual 133, 3) := by decide +kernel
theorem d_V_countItems_51 : decode b_V_countItems 51 = .ok (.iinc 2 1, 3) := by decide +kernel
theorem d_V_countItems_54 : decode b_V_countItems 54 = .ok (.goto (-39), 3) := by decide +kernel
theorem d_V_countItems_57 : decode b_V_countItems 57 = .ok (.iload_n 1, 1) := by decide +kernel
theorem d_V_countItems_58 : decode b_V_countItems 58 = .ok (.ireturn, 1) := by decide +kernel
theorem d_V_lastBlock_0 : decode b_V_lastBlock 0 = .ok (.aload_n 0, 1) := by decide +kernel
theorem d_V_lastBlock_1 : decode b_V_lastBlock 1 = .ok (.getfield 23, 3) := by decide +kernel
theorem d_V_lastBlock_4 : decode b_V_lastBlock 4 = .ok (.aload_n 0, 1) := by decide +kernel
theorem d_V_lastBlock_5 : decode b_V_lastBlock 5 = .ok (.getfield 23, 3) := by decide +kernel
theorem d_V_lastBlock_8 : decode b_V_lastBlock 8 = .ok (.iload_n 1, 1) := by decide +kernel
theorem d_V_lastBlock_9 : decode b_V_lastBlock 9 = .ok (.invokevirtual 106, 3) := by decide +kernel
theorem d_V_lastBlock_12 : decode b_V_lastBlock 12 = .ok (.invokevirtual 149, 3) := by decide +kernel
theorem d_V_lastBlock_15 : decode b_V_lastBlock 15 = .ok (.istore_n 2, 1) := by decide +kernel
theorem d_V_lastBlock_16 : decode b_V_lastBlock 16 = .ok (.iload_n 2, 1) := by decide +kernel
theorem d_V_lastBlock_17 : decode b_V_lastBlock 17 = .ok (.ifCond .le 17, 3) := by decide +kernel
theorem d_V_lastBlock_20 : decode b_V_lastBlock 20 = .ok (.aload_n 0, 1) := by decide +kernel
theorem d_V_lastBlock_21 : decode b_V_lastBlock 21 = .ok (.getfield 23, 3) := by decide +kernel
theorem d_V_lastBlock_24 : decode b_V_lastBlock 24 = .ok (.iload_n 1, 1) := by decide +kernel
theorem d_V_lastBlock_25 : decode b_V_lastBlock 25 = .ok (.iload_n 2, 1) := by decide +kernel
theorem d_V_lastBlock_26 : decode b_V_lastBlock 26 = .ok (.iconst 1, 1) := by decide +kernel
theorem d_V_lastBlock_27 : decode b_V_lastBlock 27 = .ok (.isub, 1) := by decide +kernel
theorem d_V_lastBlock_28 : decode b_V_lastBlock 28 = .ok (.invokevirtual 124, 3) := by decide +kernel
theorem d_V_lastBlock_31 : decode b_V_lastBlock 31 = .ok (.goto 4, 3) := by decide +kernel
theorem d_V_lastBlock_34 : decode b_V_lastBlock 34 = .ok (.lconst 0, 1) := by decide +kernel
theorem d_V_lastBlock_35 : decode b_V_lastBlock 35 = .ok (.lreturn, 1) := by decide +kernel
end
section
def f_V_beginAgain (NW : Nat) (fd : Int32) (hr : Int32) : Option (Int32 × Int32) := bd1 (f_S_forget NW fd) (fun (fd_1 : Int32) => some (fd_1, (2 : Int32)))
def f_V_put (NW : Nat) (sz : Int32) (wd : Nat → Int64) (fd : Int32) (hr : Int32) (a1 : Int32) (a2 : Int32) (a3 : Int64) : Option (Int32 × (Nat → Int64) × Int32 × Int32) := (if a2 < ((1 : Int32)) then some ((0 : Int32), wd, fd, hr) else (if ((8 : Int32)) < a2 then some ((0 : Int32), wd, fd, hr) else bd1 (f_D_holds NW sz (Int32.toInt64 a1) a2) (fun (r_3 : Int32) => (if r_3 = 0 then some ((0 : Int32), wd, fd, hr) else bd1 (f_D_set NW sz wd (Int32.toInt64 a1) a2 a3) (fun (wd_6 : Nat → Int64) => bd2 (f_V_beginAgain NW fd hr) (fun (fd_8 : Int32) (hr_9 : Int32) => some ((1 : Int32), wd_6, fd_8, hr_9)))))))
def f_V_fill (N : Nat) (NW : Nat) (sz : Int32) (wd : Nat → Int64) (fd : Int32) (hr : Int32) (a1 : Int32) (a2 : Int32) (a3 : Int32) : Option (Int32 × (Nat → Int64) × Int32 × Int32) := bd1 (f_D_holds NW sz (Int32.toInt64 a1) a2) (fun (r_1 : Int32) => (if r_1 = 0 then some ((0 : Int32), wd, fd, hr) else bd1 (f_D_spread N NW sz wd a1 a2 a3) (fun (wd_4 : Nat → Int64) => bd2 (f_V_beginAgain NW fd hr) (fun (fd_6 : Int32) (hr_7 : Int32) => some ((1 : Int32), wd_4, fd_6, hr_7)))))
def f_V_copy (N : Nat) (NW : Nat) (sz : Int32) (wd : Nat → Int64) (fd : Int32) (hr : Int32) (a1 : Int32) (a2 : Int32) (a3 : Int32) : Option (Int32 × (Nat → Int64) × Int32 × Int32) := bd1 (f_D_holds NW sz (Int32.toInt64 a1) a3) (fun (r_1 : Int32) => (if r_1 = 0 then some ((0 : Int32), wd, fd, hr) else bd1 (f_D_holds NW sz (Int32.toInt64 a2) a3) (fun (r_4 : Int32) => (if r_4 = 0 then some ((0 : Int32), wd, fd, hr) else bd1 (f_D_move N NW sz wd a1 a2 a3) (fun (wd_7 : Nat → Int64) => bd2 (f_V_beginAgain NW fd hr) (fun (fd_9 : Int32) (hr_10 : Int32) => some ((1 : Int32), wd_7, fd_9, hr_10)))))))
def f_V_byteAt (NW : Nat) (sz : Int32) (wd : Nat → Int64) (a1 : Int32) : Option (Int32) := bd1 (f_D_holds NW sz (Int32.toInt64 a1) ((1 : Int32))) (fun (r_1 : Int32) => (if r_1 = 0 then some ((-1 : Int32)) else bd1 (f_D_number NW sz wd (Int32.toInt64 a1) ((1 : Int32))) (fun (r_4 : Int64) => some (Int64.toInt32 r_4))))
def f_V_fault (N : Nat) (NW : Nat) (bk : Int32) (sz : Int32) (wd : Nat → Int64) (mb : Nat → Int32) (gB : Int32) (gI : Int32) (gN : Int32) (iN : Int32) (dr : Int32) (es : Int64) (of : Int64) (od : Int32) (pl : Int64) (hd : Int64) (tk : Nat → Int32) (kn : Nat → Int32) (li : Nat → Int32) (pa : Nat → Int32) (ins : Nat → Int32) (cm : Int32) (fd : Int32) : Option (Int32 × (Nat → Int32) × Int32 × Int32 × Int32 × Int32 × Int32 × Int64 × Int64 × Int32 × Int64 × Int64 × (Nat → Int32) × (Nat → Int32) × (Nat → Int32) × (Nat → Int32) × (Nat → Int32) × Int32 × Int32) := bd19 (f_S_firstFault N NW bk sz wd mb gB gI gN iN dr es of od pl hd tk kn li pa ins cm fd) (fun (r_1 : Int32) (mb_2 : Nat → Int32) (gB_3 : Int32) (gI_4 : Int32) (gN_5 : Int32) (iN_6 : Int32) (dr_7 : Int32) (es_8 : Int64) (of_9 : Int64) (od_10 : Int32) (pl_11 : Int64) (hd_12 : Int64) (tk_13 : Nat → Int32) (kn_14 : Nat → Int32) (li_15 : Nat → Int32) (pa_16 : Nat → Int32) (ins_17 : Nat → Int32) (cm_18 : Int32) (fd_19 : Int32) => some (r_1, mb_2, gB_3, gI_4, gN_5, iN_6, dr_7, es_8, of_9, od_10, pl_11, hd_12, tk_13, kn_14, li_15, pa_16, ins_17, cm_18, fd_19))
def f_V_countItems_44 (N : Nat) (NW : Nat) (sz : Int32) (wd : Nat → Int64) (mb : Nat → Int32) (gI : Int32) (hr : Int32) (K15 : Int32 → Int64 → Int64 → Int32 → Int64 → Int64 → Int32 → Int32 → Option (Int32 × Int32 × Int64 × Int64 × Int32 × Int64 × Int64)) (dr : Int32) (es : Int64) (of : Int64) (od : Int32) (pl : Int64) (hd : Int64) (x1 : Int32) (x2 : Int32) : Option (Int32 × Int32 × Int64 × Int64 × Int32 × Int64 × Int64) := bd4 (f_E_advance NW sz wd mb gI dr of od pl hd) (fun (of_1 : Int64) (od_2 : Int32) (pl_3 : Int64) (hd_4 : Int64) => lt1 (x2 + (1 : Int32)) (fun (v2_6 : Int32) => (K15 dr es of_1 od_2 pl_3 hd_4 x1 v2_6)))
def f_V_countItems_15 (N : Nat) (NW : Nat) (sz : Int32) (wd : Nat → Int64) (mb : Nat → Int32) (gI : Int32) (hr : Int32) : Nat → Int32 → Int64 → Int64 → Int32 → Int64 → Int64 → Int32 → Int32 → Option (Int32 × Int32 × Int64 × Int64 × Int32 × Int64 × Int64)
  | 0, _, _, _, _, _, _, _, _ => none
  | k+1, dr, es, of, od, pl, hd, x1, x2 => (if ((43691 : Int32)) ≤ x2 then some (x1, dr, es, of, od, pl, hd) else bd1 (f_E_isOn NW es of) (fun (r_2 : Int32) => (if r_2 = 0 then some (x1, dr, es, of, od, pl, hd) else bd1 (f_E_isItem NW od hd) (fun (r_5 : Int32) => (if r_5 = 0 then (f_V_countItems_44 N NW sz wd mb gI hr (f_V_countItems_15 N NW sz wd mb gI hr k) dr es of od pl hd x1 x2) else lt1 (x1 + (1 : Int32)) (fun (v1_8 : Int32) => (f_V_countItems_44 N NW sz wd mb gI hr (f_V_countItems_15 N NW sz wd mb gI hr k) dr es of od pl hd v1_8 x2)))))))
def f_V_countItems (N : Nat) (NW : Nat) (sz : Int32) (wd : Nat → Int64) (mb : Nat → Int32) (gI : Int32) (dr : Int32) (es : Int64) (of : Int64) (od : Int32) (pl : Int64) (hd : Int64) (hr : Int32) : Option (Int32 × Int32 × Int64 × Int64 × Int32 × Int64 × Int64) := bd6 (f_E_start NW sz wd mb gI dr es of od pl hd hr) (fun (dr_1 : Int32) (es_2 : Int64) (of_3 : Int64) (od_4 : Int32) (pl_5 : Int64) (hd_6 : Int64) => (f_V_countItems_15 N NW sz wd mb gI hr N dr_1 es_2 of_3 od_4 pl_5 hd_6 ((0 : Int32)) ((0 : Int32))))
def f_V_lastBlock (NW : Nat) (sz : Int32) (wd : Nat → Int64) (mb : Nat → Int32) (gI : Int32) (a1 : Int32) : Option (Int64) := bd1 (f_L_sizeOf NW sz wd mb gI a1) (fun (r_1 : Int64) => bd1 (f_L_blocksFor NW r_1) (fun (r_3 : Int32) => (if r_3 ≤ 0 then some ((0 : Int64)) else bd1 (f_L_blockOf NW sz wd mb gI a1 (r_3 - ((1 : Int32)))) (fun (r_6 : Int64) => some (r_6)))))
end
section
set_option maxHeartbeats 4000000 in
set_option maxRecDepth 100000 in
theorem c_V_beginAgain {l : Launch} {dC : Nat → ClassId} {dI : Nat → Nat → Nat} {h : Nat → Nat} {cI : ClassId} {cL : ClassId} {NW : Nat} {bk : Int32} {sz : Int32} {wd : Nat → Int64} {mb : Nat → Int32} {gB : Int32} {gI : Int32} {gN : Int32} {iN : Int32} {dr : Int32} {es : Int64} {of : Int64} {od : Int32} {pl : Int64} {hd : Int64} {tk : Nat → Int32} {kn : Nat → Int32} {li : Nat → Int32} {pa : Nat → Int32} {ins : Nat → Int32} {cm : Int32} {fd : Int32} {hr : Int32} {hs : Nat} {fd' : Int32} {hr' : Int32} (hf : f_V_beginAgain NW fd hr = some (fd', hr')) : Met l y_V_beginAgain ws_V_beginAgain { frames := 1, cells := 0, slots := 0, locals := 20 } (PcU (dC, dI) clAll [(cI, .int), (cL, .long)] (wC h cI cL NW bk sz wd mb gB gI gN iN dr es of od pl hd tk kn li pa ins cm fd hr) hs [.ref (h 0)]) (QUv (dC, dI) clAll [(cI, .int), (cL, .long)] (wC h cI cL NW bk sz wd mb gB gI gN iN dr es of od pl hd tk kn li pa ins cm fd hr) (wC h cI cL NW bk sz wd mb gB gI gN iN dr es of od pl hd tk kn li pa ins cm fd' hr') hs) 0 0 (va_A (wC h cI cL NW bk sz wd mb gB gI gN iN dr es of od pl hd tk kn li pa ins cm fd hr) hs) := by
  refine mUv (cc := b_V_beginAgain) (maxL := 1) (by decide) rfl (Nat.le_of_ble_eq_true rfl) ?_
  intro p e s m args below meth c Q hx hb hml hts hown A hA hK hP hD hS hret ls hl
  have htb : ∀ w ∈ TB, w.before args s = true := fun w h => hts w (List.mem_cons_of_mem _ h)
  have hl : lv_has ls 1 [(0, .ref (h 0))] := hl
  unfold f_V_beginAgain at hf
  refine lv_aload_n hx hb d_V_beginAgain_0 rfl (lv_at hl 0 rfl) ?_
  refine va_get (D := (dC, dI)) (ci := 4) (v := .ref (h 6)) (C := R_V) (T := T_V) (N := 5) hx hb htb in_V hown hK hP 0 rfl rfl 3 (by decide) (htb _ tw_210) (fun _ h9 => h9) rfl d_V_beginAgain_1 ?_
  obtain ⟨fd_1, hc_2, hf⟩ := bd1_s hf
  refine ucVv (As := []) (rest := []) ⟨hx, hb, hml, hown, htb⟩ hK hP hD hS hA (fun hs => c_S_forget hc_2) (cwV 0 htb (gV tw_241 tw_242 tw_243 tw_73 tw_244) rfl rfl rfl (by decide +kernel) ⟨Nat.le_of_ble_eq_true rfl, Nat.le_of_ble_eq_true rfl⟩) 6 3 rfl rfl rfl rfl rfl hl.1 (Nat.le_of_ble_eq_true rfl) d_V_beginAgain_4 ⟨Nat.zero_le _, Nat.zero_le _⟩ (fun H locs hP hD hS => ?_)
  refine lv_aload_n hx hb d_V_beginAgain_7 rfl (lv_at hl 0 rfl) ?_
  refine lv_iconst (v := 2) hx hb d_V_beginAgain_8 (by decide) ?_
  refine va_put (D := (dC, dI)) (ci := 4) (v := .int ((2 : Int32))) (ty := .int) (C := R_V) (T := T_V) (N := 5) hx hb htb in_V ty_V tyok_V nm_V hown hK hP hD hS 0 rfl rfl 4 (by decide) (htb _ tw_211) (fun _ h9 => h9) rfl (by decide +kernel) rfl rfl (Nat.le_of_ble_eq_true rfl) d_V_beginAgain_9 (fun H locs hP hD hS => ?_)
  have hP : va_P (dC, dI) clAll (wC h cI cL NW bk sz wd mb gB gI gN iN dr es of od pl hd tk kn li pa ins cm fd_1 ((2 : Int32))) H := hP
  have hD : va_D A (wC h cI cL NW bk sz wd mb gB gI gN iN dr es of od pl hd tk kn li pa ins cm fd_1 ((2 : Int32))) := hD
  cases hf
  exact hret _ _ _ _ hP hD hS d_V_beginAgain_12
set_option maxHeartbeats 4000000 in
set_option maxRecDepth 100000 in
theorem c_V_put {l : Launch} {dC : Nat → ClassId} {dI : Nat → Nat → Nat} {h : Nat → Nat} {cI : ClassId} {cL : ClassId} {NW : Nat} {bk : Int32} {sz : Int32} {wd : Nat → Int64} {mb : Nat → Int32} {gB : Int32} {gI : Int32} {gN : Int32} {iN : Int32} {dr : Int32} {es : Int64} {of : Int64} {od : Int32} {pl : Int64} {hd : Int64} {tk : Nat → Int32} {kn : Nat → Int32} {li : Nat → Int32} {pa : Nat → Int32} {ins : Nat → Int32} {cm : Int32} {fd : Int32} {hr : Int32} {hs : Nat} {a1 : Int32} {a2 : Int32} {a3 : Int64} {r : Int32} {wd' : Nat → Int64} {fd' : Int32} {hr' : Int32} (hf : f_V_put NW sz wd fd hr a1 a2 a3 = some (r, wd', fd', hr')) : Met l y_V_put ws_V_put { frames := 2, cells := 0, slots := 0, locals := 40 } (PcU (dC, dI) clAll [(cI, .int), (cL, .long)] (wC h cI cL NW bk sz wd mb gB gI gN iN dr es of od pl hd tk kn li pa ins cm fd hr) hs [.ref (h 0), .int a1, .int a2, .long a3]) (QUi (dC, dI) clAll [(cI, .int), (cL, .long)] (wC h cI cL NW bk sz wd mb gB gI gN iN dr es of od pl hd tk kn li pa ins cm fd hr) (wC h cI cL NW bk sz wd' mb gB gI gN iN dr es of od pl hd tk kn li pa ins cm fd' hr') hs r) 0 0 (va_A (wC h cI cL NW bk sz wd mb gB gI gN iN dr es of od pl hd tk kn li pa ins cm fd hr) hs) := by
  refine mUz (cc := b_V_put) (maxL := 5) (by decide) rfl (Nat.le_of_ble_eq_true rfl) ?_
  intro p e s m args below meth c Q hx hb hml hts hown A hA hK hP hD hS hret ls hl
  have htb : ∀ w ∈ TB, w.before args s = true := fun w h => hts w (List.mem_cons_of_mem _ h)
  have hl : lv_has ls 5 [(0, .ref (h 0)), (1, .int a1), (2, .int a2), (3, .long a3)] := hl
  unfold f_V_put at hf
  refine lv_iload_n hx hb d_V_put_0 rfl (lv_at hl 2 rfl) ?_
  refine lv_iconst (v := 1) hx hb d_V_put_1 (by decide) ?_
  refine lv_icmp_lt (tgt := 24) hx hb d_V_put_2 (by decide) (fun c_1 => ?_) (fun c_1 => ?_)
  · have hf := ite_t c_1 hf
    refine lv_iconst (v := 0) hx hb d_V_put_24 (by decide) ?_
    cases hf
    exact hret _ _ _ _ (Or.inl rfl) hP hD hS d_V_put_25
  · have hf := ite_f c_1 hf
    refine lv_iload_n hx hb d_V_put_5 rfl (lv_at hl 2 rfl) ?_
    refine lv_bipush (v := 8) hx hb d_V_put_6 (by decide) ?_
    refine lv_icmp_gt (tgt := 24) hx hb d_V_put_8 (by decide) (fun c_2 => ?_) (fun c_2 => ?_)
    · have hf := ite_t c_2 hf
      refine lv_iconst (v := 0) hx hb d_V_put_24 (by decide) ?_
      cases hf
      exact hret _ _ _ _ (Or.inl rfl) hP hD hS d_V_put_25
    · have hf := ite_f c_2 hf
      refine lv_aload_n hx hb d_V_put_11 rfl (lv_at hl 0 rfl) ?_
      refine va_get (D := (dC, dI)) (ci := 4) (v := .ref (h 1)) (C := R_V) (T := T_V) (N := 5) hx hb htb in_V hown hK hP 0 rfl rfl 0 (by decide) (htb _ tw_207) (fun _ h9 => h9) rfl d_V_put_12 ?_
      refine lv_iload_n hx hb d_V_put_15 rfl (lv_at hl 1 rfl) ?_
      refine lv_i2l hx hb d_V_put_16 rfl ?_
      refine lv_iload_n hx hb d_V_put_17 rfl (lv_at hl 2 rfl) ?_
      obtain ⟨r_3, hc_4, hf⟩ := bd1_s hf
      refine ucVi (As := [.long (Int32.toInt64 a1), .int a2]) (rest := []) ⟨hx, hb, hml, hown, htb⟩ hK hP hD hS hA (fun hs => c_D_holds hc_4) (cwV 2 htb (gV tw_227 tw_228 tw_229 tw_69 tw_230) rfl rfl rfl (by decide +kernel) ⟨Nat.le_of_ble_eq_true rfl, Nat.le_of_ble_eq_true rfl⟩) 1 0 rfl rfl rfl rfl rfl hl.1 (Nat.le_of_ble_eq_true rfl) d_V_put_18 ⟨Nat.zero_le _, Nat.zero_le _⟩ (fun H locs hP hD hS => ?_)
      refine lv_if_ne (tgt := 26) hx hb d_V_put_21 (by decide) (fun c_5 => ?_) (fun c_5 => ?_)
      · have hf := ite_f c_5 hf
        refine lv_aload_n hx hb d_V_put_26 rfl (lv_at hl 0 rfl) ?_
        refine va_get (D := (dC, dI)) (ci := 4) (v := .ref (h 1)) (C := R_V) (T := T_V) (N := 5) hx hb htb in_V hown hK hP 0 rfl rfl 0 (by decide) (htb _ tw_207) (fun _ h9 => h9) rfl d_V_put_27 ?_
        refine lv_iload_n hx hb d_V_put_30 rfl (lv_at hl 1 rfl) ?_
        refine lv_i2l hx hb d_V_put_31 rfl ?_
        refine lv_iload_n hx hb d_V_put_32 rfl (lv_at hl 2 rfl) ?_
        refine lv_lload_n hx hb d_V_put_33 rfl (lv_at hl 3 rfl) ?_
        obtain ⟨wd_6, hc_7, hf⟩ := bd1_s hf
        refine ucVv (As := [.long (Int32.toInt64 a1), .int a2, .long a3]) (rest := []) ⟨hx, hb, hml, hown, htb⟩ hK hP hD hS hA (fun hs => c_D_set hc_7) (cwV 3 htb (gV tw_231 tw_232 tw_233 tw_69 tw_234) rfl rfl rfl (by decide +kernel) ⟨Nat.le_of_ble_eq_true rfl, Nat.le_of_ble_eq_true rfl⟩) 1 0 rfl rfl rfl rfl rfl hl.1 (Nat.le_of_ble_eq_true rfl) d_V_put_34 ⟨Nat.zero_le _, Nat.zero_le _⟩ (fun H locs hP hD hS => ?_)
        refine lv_aload_n hx hb d_V_put_37 rfl (lv_at hl 0 rfl) ?_
        obtain ⟨fd_8, hr_9, hc_10, hf⟩ := bd2_s hf
        refine ucVv (As := []) (rest := []) ⟨hx, hb, hml, hown, htb⟩ hK hP hD hS hA (fun hs => c_V_beginAgain hc_10) (cwV 0 htb (gV tw_237 tw_239 tw_0 tw_68 tw_240) rfl rfl rfl (by decide +kernel) ⟨Nat.le_of_ble_eq_true rfl, Nat.le_of_ble_eq_true rfl⟩) 0 4 rfl rfl rfl rfl rfl hl.1 (Nat.le_of_ble_eq_true rfl) d_V_put_38 ⟨Nat.zero_le _, Nat.zero_le _⟩ (fun H locs hP hD hS => ?_)
        refine lv_iconst (v := 1) hx hb d_V_put_41 (by decide) ?_
        cases hf
        exact hret _ _ _ _ (Or.inr rfl) hP hD hS d_V_put_42
      · have hf := ite_t c_5 hf
        refine lv_iconst (v := 0) hx hb d_V_put_24 (by decide) ?_
        cases hf
        exact hret _ _ _ _ (Or.inl rfl) hP hD hS d_V_put_25
set_option maxHeartbeats 4000000 in
set_option maxRecDepth 100000 in
theorem c_V_fill {l : Launch} {dC : Nat → ClassId} {dI : Nat → Nat → Nat} {N : Nat} {h : Nat → Nat} {cI : ClassId} {cL : ClassId} {NW : Nat} {bk : Int32} {sz : Int32} {wd : Nat → Int64} {mb : Nat → Int32} {gB : Int32} {gI : Int32} {gN : Int32} {iN : Int32} {dr : Int32} {es : Int64} {of : Int64} {od : Int32} {pl : Int64} {hd : Int64} {tk : Nat → Int32} {kn : Nat → Int32} {li : Nat → Int32} {pa : Nat → Int32} {ins : Nat → Int32} {cm : Int32} {fd : Int32} {hr : Int32} {hs : Nat} {a1 : Int32} {a2 : Int32} {a3 : Int32} {r : Int32} {wd' : Nat → Int64} {fd' : Int32} {hr' : Int32} (hf : f_V_fill N NW sz wd fd hr a1 a2 a3 = some (r, wd', fd', hr')) : Met l y_V_fill ws_V_fill { frames := 2, cells := 0, slots := 0, locals := 57 } (PcU (dC, dI) clAll [(cI, .int), (cL, .long)] (wC h cI cL NW bk sz wd mb gB gI gN iN dr es of od pl hd tk kn li pa ins cm fd hr) hs [.ref (h 0), .int a1, .int a2, .int a3]) (QUi (dC, dI) clAll [(cI, .int), (cL, .long)] (wC h cI cL NW bk sz wd mb gB gI gN iN dr es of od pl hd tk kn li pa ins cm fd hr) (wC h cI cL NW bk sz wd' mb gB gI gN iN dr es of od pl hd tk kn li pa ins cm fd' hr') hs r) 0 0 (va_A (wC h cI cL NW bk sz wd mb gB gI gN iN dr es of od pl hd tk kn li pa ins cm fd hr) hs) := by
  refine mUz (cc := b_V_fill) (maxL := 4) (by decide) rfl (Nat.le_of_ble_eq_true rfl) ?_
  intro p e s m args below meth c Q hx hb hml hts hown A hA hK hP hD hS hret ls hl
  have htb : ∀ w ∈ TB, w.before args s = true := fun w h => hts w (List.mem_cons_of_mem _ h)
  have hl : lv_has ls 4 [(0, .ref (h 0)), (1, .int a1), (2, .int a2), (3, .int a3)] := hl
  unfold f_V_fill at hf
  refine lv_aload_n hx hb d_V_fill_0 rfl (lv_at hl 0 rfl) ?_
  refine va_get (D := (dC, dI)) (ci := 4) (v := .ref (h 1)) (C := R_V) (T := T_V) (N := 5) hx hb htb in_V hown hK hP 0 rfl rfl 0 (by decide) (htb _ tw_207) (fun _ h9 => h9) rfl d_V_fill_1 ?_
  refine lv_iload_n hx hb d_V_fill_4 rfl (lv_at hl 1 rfl) ?_
  refine lv_i2l hx hb d_V_fill_5 rfl ?_
  refine lv_iload_n hx hb d_V_fill_6 rfl (lv_at hl 2 rfl) ?_
  obtain ⟨r_1, hc_2, hf⟩ := bd1_s hf
  refine ucVi (As := [.long (Int32.toInt64 a1), .int a2]) (rest := []) ⟨hx, hb, hml, hown, htb⟩ hK hP hD hS hA (fun hs => c_D_holds hc_2) (cwV 2 htb (gV tw_227 tw_228 tw_229 tw_69 tw_230) rfl rfl rfl (by decide +kernel) ⟨Nat.le_of_ble_eq_true rfl, Nat.le_of_ble_eq_true rfl⟩) 1 0 rfl rfl rfl rfl rfl hl.1 (Nat.le_of_ble_eq_true rfl) d_V_fill_7 ⟨Nat.zero_le _, Nat.zero_le _⟩ (fun H locs hP hD hS => ?_)
  refine lv_if_ne (tgt := 15) hx hb d_V_fill_10 (by decide) (fun c_3 => ?_) (fun c_3 => ?_)
  · have hf := ite_f c_3 hf
    refine lv_aload_n hx hb d_V_fill_15 rfl (lv_at hl 0 rfl) ?_
    refine va_get (D := (dC, dI)) (ci := 4) (v := .ref (h 1)) (C := R_V) (T := T_V) (N := 5) hx hb htb in_V hown hK hP 0 rfl rfl 0 (by decide) (htb _ tw_207) (fun _ h9 => h9) rfl d_V_fill_16 ?_
    refine lv_iload_n hx hb d_V_fill_19 rfl (lv_at hl 1 rfl) ?_
    refine lv_iload_n hx hb d_V_fill_20 rfl (lv_at hl 2 rfl) ?_
    refine lv_iload_n hx hb d_V_fill_21 rfl (lv_at hl 3 rfl) ?_
    obtain ⟨wd_4, hc_5, hf⟩ := bd1_s hf
    refine ucVv (As := [.int a1, .int a2, .int a3]) (rest := []) ⟨hx, hb, hml, hown, htb⟩ hK hP hD hS hA (fun hs => c_D_spread hc_5) (cwV 3 htb (gV tw_249 tw_250 tw_251 tw_69 tw_252) rfl rfl rfl (by decide +kernel) ⟨Nat.le_of_ble_eq_true rfl, Nat.le_of_ble_eq_true rfl⟩) 1 0 rfl rfl rfl rfl rfl hl.1 (Nat.le_of_ble_eq_true rfl) d_V_fill_22 ⟨Nat.zero_le _, Nat.zero_le _⟩ (fun H locs hP hD hS => ?_)
    refine lv_aload_n hx hb d_V_fill_25 rfl (lv_at hl 0 rfl) ?_
    obtain ⟨fd_6, hr_7, hc_8, hf⟩ := bd2_s hf
    refine ucVv (As := []) (rest := []) ⟨hx, hb, hml, hown, htb⟩ hK hP hD hS hA (fun hs => c_V_beginAgain hc_8) (cwV 0 htb (gV tw_237 tw_239 tw_0 tw_68 tw_240) rfl rfl rfl (by decide +kernel) ⟨Nat.le_of_ble_eq_true rfl, Nat.le_of_ble_eq_true rfl⟩) 0 4 rfl rfl rfl rfl rfl hl.1 (Nat.le_of_ble_eq_true rfl) d_V_fill_26 ⟨Nat.zero_le _, Nat.zero_le _⟩ (fun H locs hP hD hS => ?_)
    refine lv_iconst (v := 1) hx hb d_V_fill_29 (by decide) ?_
    cases hf
    exact hret _ _ _ _ (Or.inr rfl) hP hD hS d_V_fill_30
  · have hf := ite_t c_3 hf
    refine lv_iconst (v := 0) hx hb d_V_fill_13 (by decide) ?_
    cases hf
    exact hret _ _ _ _ (Or.inl rfl) hP hD hS d_V_fill_14
set_option maxHeartbeats 4000000 in
set_option maxRecDepth 100000 in
theorem c_V_copy {l : Launch} {dC : Nat → ClassId} {dI : Nat → Nat → Nat} {N : Nat} {h : Nat → Nat} {cI : ClassId} {cL : ClassId} {NW : Nat} {bk : Int32} {sz : Int32} {wd : Nat → Int64} {mb : Nat → Int32} {gB : Int32} {gI : Int32} {gN : Int32} {iN : Int32} {dr : Int32} {es : Int64} {of : Int64} {od : Int32} {pl : Int64} {hd : Int64} {tk : Nat → Int32} {kn : Nat → Int32} {li : Nat → Int32} {pa : Nat → Int32} {ins : Nat → Int32} {cm : Int32} {fd : Int32} {hr : Int32} {hs : Nat} {a1 : Int32} {a2 : Int32} {a3 : Int32} {r : Int32} {wd' : Nat → Int64} {fd' : Int32} {hr' : Int32} (hf : f_V_copy N NW sz wd fd hr a1 a2 a3 = some (r, wd', fd', hr')) : Met l y_V_copy ws_V_copy { frames := 2, cells := 0, slots := 0, locals := 55 } (PcU (dC, dI) clAll [(cI, .int), (cL, .long)] (wC h cI cL NW bk sz wd mb gB gI gN iN dr es of od pl hd tk kn li pa ins cm fd hr) hs [.ref (h 0), .int a1, .int a2, .int a3]) (QUi (dC, dI) clAll [(cI, .int), (cL, .long)] (wC h cI cL NW bk sz wd mb gB gI gN iN dr es of od pl hd tk kn li pa ins cm fd hr) (wC h cI cL NW bk sz wd' mb gB gI gN iN dr es of od pl hd tk kn li pa ins cm fd' hr') hs r) 0 0 (va_A (wC h cI cL NW bk sz wd mb gB gI gN iN dr es of od pl hd tk kn li pa ins cm fd hr) hs) := by
  refine mUz (cc := b_V_copy) (maxL := 4) (by decide) rfl (Nat.le_of_ble_eq_true rfl) ?_
  intro p e s m args below meth c Q hx hb hml hts hown A hA hK hP hD hS hret ls hl
  have htb : ∀ w ∈ TB, w.before args s = true := fun w h => hts w (List.mem_cons_of_mem _ h)
  have hl : lv_has ls 4 [(0, .ref (h 0)), (1, .int a1), (2, .int a2), (3, .int a3)] := hl
  unfold f_V_copy at hf
  refine lv_aload_n hx hb d_V_copy_0 rfl (lv_at hl 0 rfl) ?_
  refine va_get (D := (dC, dI)) (ci := 4) (v := .ref (h 1)) (C := R_V) (T := T_V) (N := 5) hx hb htb in_V hown hK hP 0 rfl rfl 0 (by decide) (htb _ tw_207) (fun _ h9 => h9) rfl d_V_copy_1 ?_
  refine lv_iload_n hx hb d_V_copy_4 rfl (lv_at hl 1 rfl) ?_
  refine lv_i2l hx hb d_V_copy_5 rfl ?_
  refine lv_iload_n hx hb d_V_copy_6 rfl (lv_at hl 3 rfl) ?_
  obtain ⟨r_1, hc_2, hf⟩ := bd1_s hf
  refine ucVi (As := [.long (Int32.toInt64 a1), .int a3]) (rest := []) ⟨hx, hb, hml, hown, htb⟩ hK hP hD hS hA (fun hs => c_D_holds hc_2) (cwV 2 htb (gV tw_227 tw_228 tw_229 tw_69 tw_230) rfl rfl rfl (by decide +kernel) ⟨Nat.le_of_ble_eq_true rfl, Nat.le_of_ble_eq_true rfl⟩) 1 0 rfl rfl rfl rfl rfl hl.1 (Nat.le_of_ble_eq_true rfl) d_V_copy_7 ⟨Nat.zero_le _, Nat.zero_le _⟩ (fun H locs hP hD hS => ?_)
  refine lv_if_eq (tgt := 26) hx hb d_V_copy_10 (by decide) (fun c_3 => ?_) (fun c_3 => ?_)
  · have hf := ite_t c_3 hf
    refine lv_iconst (v := 0) hx hb d_V_copy_26 (by decide) ?_
    cases hf
    exact hret _ _ _ _ (Or.inl rfl) hP hD hS d_V_copy_27
  · have hf := ite_f c_3 hf
    refine lv_aload_n hx hb d_V_copy_13 rfl (lv_at hl 0 rfl) ?_
    refine va_get (D := (dC, dI)) (ci := 4) (v := .ref (h 1)) (C := R_V) (T := T_V) (N := 5) hx hb htb in_V hown hK hP 0 rfl rfl 0 (by decide) (htb _ tw_207) (fun _ h9 => h9) rfl d_V_copy_14 ?_
    refine lv_iload_n hx hb d_V_copy_17 rfl (lv_at hl 2 rfl) ?_
    refine lv_i2l hx hb d_V_copy_18 rfl ?_
    refine lv_iload_n hx hb d_V_copy_19 rfl (lv_at hl 3 rfl) ?_
    obtain ⟨r_4, hc_5, hf⟩ := bd1_s hf
    refine ucVi (As := [.long (Int32.toInt64 a2), .int a3]) (rest := []) ⟨hx, hb, hml, hown, htb⟩ hK hP hD hS hA (fun hs => c_D_holds hc_5) (cwV 2 htb (gV tw_227 tw_228 tw_229 tw_69 tw_230) rfl rfl rfl (by decide +kernel) ⟨Nat.le_of_ble_eq_true rfl, Nat.le_of_ble_eq_true rfl⟩) 1 0 rfl rfl rfl rfl rfl hl.1 (Nat.le_of_ble_eq_true rfl) d_V_copy_20 ⟨Nat.zero_le _, Nat.zero_le _⟩ (fun H locs hP hD hS => ?_)
    refine lv_if_ne (tgt := 28) hx hb d_V_copy_23 (by decide) (fun c_6 => ?_) (fun c_6 => ?_)
    · have hf := ite_f c_6 hf
      refine lv_aload_n hx hb d_V_copy_28 rfl (lv_at hl 0 rfl) ?_
      refine va_get (D := (dC, dI)) (ci := 4) (v := .ref (h 1)) (C := R_V) (T := T_V) (N := 5) hx hb htb in_V hown hK hP 0 rfl rfl 0 (by decide) (htb _ tw_207) (fun _ h9 => h9) rfl d_V_copy_29 ?_
      refine lv_iload_n hx hb d_V_copy_32 rfl (lv_at hl 1 rfl) ?_
      refine lv_iload_n hx hb d_V_copy_33 rfl (lv_at hl 2 rfl) ?_
      refine lv_iload_n hx hb d_V_copy_34 rfl (lv_at hl 3 rfl) ?_
      obtain ⟨wd_7, hc_8, hf⟩ := bd1_s hf
      refine ucVv (As := [.int a1, .int a2, .int a3]) (rest := []) ⟨hx, hb, hml, hown, htb⟩ hK hP hD hS hA (fun hs => c_D_move hc_8) (cwV 3 htb (gV tw_259 tw_260 tw_261 tw_69 tw_262) rfl rfl rfl (by decide +kernel) ⟨Nat.le_of_ble_eq_true rfl, Nat.le_of_ble_eq_true rfl⟩) 1 0 rfl rfl rfl rfl rfl hl.1 (Nat.le_of_ble_eq_true rfl) d_V_copy_35 ⟨Nat.zero_le _, Nat.zero_le _⟩ (fun H locs hP hD hS => ?_)
      refine lv_aload_n hx hb d_V_copy_38 rfl (lv_at hl 0 rfl) ?_
      obtain ⟨fd_9, hr_10, hc_11, hf⟩ := bd2_s hf
      refine ucVv (As := []) (rest := []) ⟨hx, hb, hml, hown, htb⟩ hK hP hD hS hA (fun hs => c_V_beginAgain hc_11) (cwV 0 htb (gV tw_237 tw_239 tw_0 tw_68 tw_240) rfl rfl rfl (by decide +kernel) ⟨Nat.le_of_ble_eq_true rfl, Nat.le_of_ble_eq_true rfl⟩) 0 4 rfl rfl rfl rfl rfl hl.1 (Nat.le_of_ble_eq_true rfl) d_V_copy_39 ⟨Nat.zero_le _, Nat.zero_le _⟩ (fun H locs hP hD hS => ?_)
      refine lv_iconst (v := 1) hx hb d_V_copy_42 (by decide) ?_
      cases hf
      exact hret _ _ _ _ (Or.inr rfl) hP hD hS d_V_copy_43
    · have hf := ite_t c_6 hf
      refine lv_iconst (v := 0) hx hb d_V_copy_26 (by decide) ?_
      cases hf
      exact hret _ _ _ _ (Or.inl rfl) hP hD hS d_V_copy_27
set_option maxHeartbeats 4000000 in
set_option maxRecDepth 100000 in
theorem c_V_byteAt {l : Launch} {dC : Nat → ClassId} {dI : Nat → Nat → Nat} {h : Nat → Nat} {cI : ClassId} {cL : ClassId} {NW : Nat} {bk : Int32} {sz : Int32} {wd : Nat → Int64} {mb : Nat → Int32} {gB : Int32} {gI : Int32} {gN : Int32} {iN : Int32} {dr : Int32} {es : Int64} {of : Int64} {od : Int32} {pl : Int64} {hd : Int64} {tk : Nat → Int32} {kn : Nat → Int32} {li : Nat → Int32} {pa : Nat → Int32} {ins : Nat → Int32} {cm : Int32} {fd : Int32} {hr : Int32} {hs : Nat} {a1 : Int32} {r : Int32} (hf : f_V_byteAt NW sz wd a1 = some (r)) : Met l y_V_byteAt ws_V_byteAt { frames := 1, cells := 0, slots := 0, locals := 27 } (PcU (dC, dI) clAll [(cI, .int), (cL, .long)] (wC h cI cL NW bk sz wd mb gB gI gN iN dr es of od pl hd tk kn li pa ins cm fd hr) hs [.ref (h 0), .int a1]) (QUi (dC, dI) clAll [(cI, .int), (cL, .long)] (wC h cI cL NW bk sz wd mb gB gI gN iN dr es of od pl hd tk kn li pa ins cm fd hr) (wC h cI cL NW bk sz wd mb gB gI gN iN dr es of od pl hd tk kn li pa ins cm fd hr) hs r) 0 0 (va_A (wC h cI cL NW bk sz wd mb gB gI gN iN dr es of od pl hd tk kn li pa ins cm fd hr) hs) := by
  refine mUi (cc := b_V_byteAt) (maxL := 2) (by decide) rfl (Nat.le_of_ble_eq_true rfl) ?_
  intro p e s m args below meth c Q hx hb hml hts hown A hA hK hP hD hS hret ls hl
  have htb : ∀ w ∈ TB, w.before args s = true := fun w h => hts w (List.mem_cons_of_mem _ h)
  have hl : lv_has ls 2 [(0, .ref (h 0)), (1, .int a1)] := hl
  unfold f_V_byteAt at hf
  refine lv_aload_n hx hb d_V_byteAt_0 rfl (lv_at hl 0 rfl) ?_
  refine va_get (D := (dC, dI)) (ci := 4) (v := .ref (h 1)) (C := R_V) (T := T_V) (N := 5) hx hb htb in_V hown hK hP 0 rfl rfl 0 (by decide) (htb _ tw_207) (fun _ h9 => h9) rfl d_V_byteAt_1 ?_
  refine lv_iload_n hx hb d_V_byteAt_4 rfl (lv_at hl 1 rfl) ?_
  refine lv_i2l hx hb d_V_byteAt_5 rfl ?_
  refine lv_iconst (v := 1) hx hb d_V_byteAt_6 (by decide) ?_
  obtain ⟨r_1, hc_2, hf⟩ := bd1_s hf
  refine ucVi (As := [.long (Int32.toInt64 a1), .int ((1 : Int32))]) (rest := []) ⟨hx, hb, hml, hown, htb⟩ hK hP hD hS hA (fun hs => c_D_holds hc_2) (cwV 2 htb (gV tw_227 tw_228 tw_229 tw_69 tw_230) rfl rfl rfl (by decide +kernel) ⟨Nat.le_of_ble_eq_true rfl, Nat.le_of_ble_eq_true rfl⟩) 1 0 rfl rfl rfl rfl rfl hl.1 (Nat.le_of_ble_eq_true rfl) d_V_byteAt_7 ⟨Nat.zero_le _, Nat.zero_le _⟩ (fun H locs hP hD hS => ?_)
  refine lv_if_eq (tgt := 27) hx hb d_V_byteAt_10 (by decide) (fun c_3 => ?_) (fun c_3 => ?_)
  · have hf := ite_t c_3 hf
    refine lv_iconst (v := -1) hx hb d_V_byteAt_27 (by decide) ?_
    cases hf
    exact hret _ _ _ _ hP hD hS d_V_byteAt_28
  · have hf := ite_f c_3 hf
    refine lv_aload_n hx hb d_V_byteAt_13 rfl (lv_at hl 0 rfl) ?_
    refine va_get (D := (dC, dI)) (ci := 4) (v := .ref (h 1)) (C := R_V) (T := T_V) (N := 5) hx hb htb in_V hown hK hP 0 rfl rfl 0 (by decide) (htb _ tw_207) (fun _ h9 => h9) rfl d_V_byteAt_14 ?_
    refine lv_iload_n hx hb d_V_byteAt_17 rfl (lv_at hl 1 rfl) ?_
    refine lv_i2l hx hb d_V_byteAt_18 rfl ?_
    refine lv_iconst (v := 1) hx hb d_V_byteAt_19 (by decide) ?_
    obtain ⟨r_4, hc_5, hf⟩ := bd1_s hf
    refine ucVl (As := [.long (Int32.toInt64 a1), .int ((1 : Int32))]) (rest := []) ⟨hx, hb, hml, hown, htb⟩ hK hP hD hS hA (fun hs => c_D_number hc_5) (cwV 2 htb (gV tw_271 tw_264 tw_265 tw_69 tw_266) rfl rfl rfl (by decide +kernel) ⟨Nat.le_of_ble_eq_true rfl, Nat.le_of_ble_eq_true rfl⟩) 1 0 rfl rfl rfl rfl rfl hl.1 (Nat.le_of_ble_eq_true rfl) d_V_byteAt_20 ⟨Nat.zero_le _, Nat.zero_le _⟩ (fun H locs hP hD hS => ?_)
    refine lv_l2i hx hb d_V_byteAt_23 rfl ?_
    refine lv_goto (tgt := 28) hx hb d_V_byteAt_24 (by decide) ?_
    cases hf
    exact hret _ _ _ _ hP hD hS d_V_byteAt_28
set_option maxHeartbeats 4000000 in
set_option maxRecDepth 100000 in
theorem c_V_fault {l : Launch} {dC : Nat → ClassId} {dI : Nat → Nat → Nat} {N : Nat} {h : Nat → Nat} {cI : ClassId} {cL : ClassId} {NW : Nat} {bk : Int32} {sz : Int32} {wd : Nat → Int64} {mb : Nat → Int32} {gB : Int32} {gI : Int32} {gN : Int32} {iN : Int32} {dr : Int32} {es : Int64} {of : Int64} {od : Int32} {pl : Int64} {hd : Int64} {tk : Nat → Int32} {kn : Nat → Int32} {li : Nat → Int32} {pa : Nat → Int32} {ins : Nat → Int32} {cm : Int32} {fd : Int32} {hr : Int32} {hs : Nat} {r : Int32} {mb' : Nat → Int32} {gB' : Int32} {gI' : Int32} {gN' : Int32} {iN' : Int32} {dr' : Int32} {es' : Int64} {of' : Int64} {od' : Int32} {pl' : Int64} {hd' : Int64} {tk' : Nat → Int32} {kn' : Nat → Int32} {li' : Nat → Int32} {pa' : Nat → Int32} {ins' : Nat → Int32} {cm' : Int32} {fd' : Int32} (hf : f_V_fault N NW bk sz wd mb gB gI gN iN dr es of od pl hd tk kn li pa ins cm fd = some (r, mb', gB', gI', gN', iN', dr', es', of', od', pl', hd', tk', kn', li', pa', ins', cm', fd')) : Met l y_V_fault ws_V_fault { frames := 6, cells := 0, slots := 0, locals := 150 } (PcU (dC, dI) clAll [(cI, .int), (cL, .long)] (wC h cI cL NW bk sz wd mb gB gI gN iN dr es of od pl hd tk kn li pa ins cm fd hr) hs [.ref (h 0)]) (QUi (dC, dI) clAll [(cI, .int), (cL, .long)] (wC h cI cL NW bk sz wd mb gB gI gN iN dr es of od pl hd tk kn li pa ins cm fd hr) (wC h cI cL NW bk sz wd mb' gB' gI' gN' iN' dr' es' of' od' pl' hd' tk' kn' li' pa' ins' cm' fd' hr) hs r) 0 0 (va_A (wC h cI cL NW bk sz wd mb gB gI gN iN dr es of od pl hd tk kn li pa ins cm fd hr) hs) := by
  refine mUi (cc := b_V_fault) (maxL := 1) (by decide) rfl (Nat.le_of_ble_eq_true rfl) ?_
  intro p e s m args below meth c Q hx hb hml hts hown A hA hK hP hD hS hret ls hl
  have htb : ∀ w ∈ TB, w.before args s = true := fun w h => hts w (List.mem_cons_of_mem _ h)
  have hl : lv_has ls 1 [(0, .ref (h 0))] := hl
  unfold f_V_fault at hf
  refine lv_aload_n hx hb d_V_fault_0 rfl (lv_at hl 0 rfl) ?_
  refine va_get (D := (dC, dI)) (ci := 4) (v := .ref (h 6)) (C := R_V) (T := T_V) (N := 5) hx hb htb in_V hown hK hP 0 rfl rfl 3 (by decide) (htb _ tw_210) (fun _ h9 => h9) rfl d_V_fault_1 ?_
  obtain ⟨r_1, mb_2, gB_3, gI_4, gN_5, iN_6, dr_7, es_8, of_9, od_10, pl_11, hd_12, tk_13, kn_14, li_15, pa_16, ins_17, cm_18, fd_19, hc_20, hf⟩ := bd19_s hf
  refine ucVi (As := []) (rest := []) ⟨hx, hb, hml, hown, htb⟩ hK hP hD hS hA (fun hs => c_S_firstFault hc_20) (cwV 0 htb (gV tw_276 tw_277 tw_278 tw_73 tw_279) rfl rfl rfl (by decide +kernel) ⟨Nat.le_of_ble_eq_true rfl, Nat.le_of_ble_eq_true rfl⟩) 6 3 rfl rfl rfl rfl rfl hl.1 (Nat.le_of_ble_eq_true rfl) d_V_fault_4 ⟨Nat.zero_le _, Nat.zero_le _⟩ (fun H locs hP hD hS => ?_)
  cases hf
  exact hret _ _ _ _ hP hD hS d_V_fault_7
set_option maxHeartbeats 4000000 in
set_option maxRecDepth 100000 in
theorem c_V_countItems {l : Launch} {dC : Nat → ClassId} {dI : Nat → Nat → Nat} {N : Nat} {h : Nat → Nat} {cI : ClassId} {cL : ClassId} {NW : Nat} {bk : Int32} {sz : Int32} {wd : Nat → Int64} {mb : Nat → Int32} {gB : Int32} {gI : Int32} {gN : Int32} {iN : Int32} {dr : Int32} {es : Int64} {of : Int64} {od : Int32} {pl : Int64} {hd : Int64} {tk : Nat → Int32} {kn : Nat → Int32} {li : Nat → Int32} {pa : Nat → Int32} {ins : Nat → Int32} {cm : Int32} {fd : Int32} {hr : Int32} {hs : Nat} {r : Int32} {dr' : Int32} {es' : Int64} {of' : Int64} {od' : Int32} {pl' : Int64} {hd' : Int64} (hf : f_V_countItems N NW sz wd mb gI dr es of od pl hd hr = some (r, dr', es', of', od', pl', hd')) : Met l y_V_countItems ws_V_countItems { frames := 3, cells := 0, slots := 0, locals := 77 } (PcU (dC, dI) clAll [(cI, .int), (cL, .long)] (wC h cI cL NW bk sz wd mb gB gI gN iN dr es of od pl hd tk kn li pa ins cm fd hr) hs [.ref (h 0)]) (QUi (dC, dI) clAll [(cI, .int), (cL, .long)] (wC h cI cL NW bk sz wd mb gB gI gN iN dr es of od pl hd tk kn li pa ins cm fd hr) (wC h cI cL NW bk sz wd mb gB gI gN iN dr' es' of' od' pl' hd' tk kn li pa ins cm fd hr) hs r) 0 0 (va_A (wC h cI cL NW bk sz wd mb gB gI gN iN dr es of od pl hd tk kn li pa ins cm fd hr) hs) := by
  refine mUi (cc := b_V_countItems) (maxL := 3) (by decide) rfl (Nat.le_of_ble_eq_true rfl) ?_
  intro p e s m args below meth c Q hx hb hml hts hown A hA hK hP hD hS hret ls hl
  have htb : ∀ w ∈ TB, w.before args s = true := fun w h => hts w (List.mem_cons_of_mem _ h)
  have hl : lv_has ls 3 [(0, .ref (h 0))] := hl
  have hj_15 : ∀ (k_15 : Nat) (dr : Int32) (es : Int64) (of : Int64) (od : Int32) (pl : Int64) (hd : Int64) (x1 : Int32) (x2 : Int32) (H : Heap) (locs : List Loc) (ls : Array Slot), f_V_countItems_15 N NW sz wd mb gI hr k_15 dr es of od pl hd x1 x2 = some (r, dr', es', of', od', pl', hd') → va_P (dC, dI) clAll (wC h cI cL NW bk sz wd mb gB gI gN iN dr es of od pl hd tk kn li pa ins cm fd hr) H → va_D A (wC h cI cL NW bk sz wd mb gB gI gN iN dr es of od pl hd tk kn li pa ins cm fd hr) → va_S A s.heap H locs → lv_has ls 3 [(0, .ref (h 0)), (1, .int x1), (2, .int x2)] → W p l e (headSpec ws_V_countItems { frames := 3, cells := 0, slots := 0, locals := 77 }).room s m args below meth c H locs 0 0 Q (F0 m 15 ls []) := by
    intro k_15
    induction k_15 with
    | zero => intro _ _ _ _ _ _ _ _ _ _ _ hf; exact absurd hf (by simp [f_V_countItems_15])
    | succ k_15 ih_15 =>
      have hj_44 : ∀ (dr : Int32) (es : Int64) (of : Int64) (od : Int32) (pl : Int64) (hd : Int64) (x1 : Int32) (x2 : Int32) (H : Heap) (locs : List Loc) (ls : Array Slot), f_V_countItems_44 N NW sz wd mb gI hr (f_V_countItems_15 N NW sz wd mb gI hr k_15) dr es of od pl hd x1 x2 = some (r, dr', es', of', od', pl', hd') → va_P (dC, dI) clAll (wC h cI cL NW bk sz wd mb gB gI gN iN dr es of od pl hd tk kn li pa ins cm fd hr) H → va_D A (wC h cI cL NW bk sz wd mb gB gI gN iN dr es of od pl hd tk kn li pa ins cm fd hr) → va_S A s.heap H locs → lv_has ls 3 [(0, .ref (h 0)), (1, .int x1), (2, .int x2)] → W p l e (headSpec ws_V_countItems { frames := 3, cells := 0, slots := 0, locals := 77 }).room s m args below meth c H locs 0 0 Q (F0 m 44 ls []) := by
        intro dr es of od pl hd x1 x2 H locs ls hf hP hD hS hl
        unfold f_V_countItems_44 at hf
        refine lv_aload_n hx hb d_V_countItems_44 rfl (lv_at hl 0 rfl) ?_
        refine va_get (D := (dC, dI)) (ci := 4) (v := .ref (h 5)) (C := R_V) (T := T_V) (N := 5) hx hb htb in_V hown hK hP 0 rfl rfl 2 (by decide) (htb _ tw_209) (fun _ h9 => h9) rfl d_V_countItems_45 ?_
        obtain ⟨of_1, od_2, pl_3, hd_4, hc_5, hf⟩ := bd4_s hf
        refine ucVv (As := []) (rest := []) ⟨hx, hb, hml, hown, htb⟩ hK hP hD hS hA (fun hs => c_E_advance hc_5) (cwV 0 htb (gV tw_667 tw_506 tw_507 tw_72 tw_508) rfl rfl rfl (by decide +kernel) ⟨Nat.le_of_ble_eq_true rfl, Nat.le_of_ble_eq_true rfl⟩) 5 1 rfl rfl rfl rfl rfl hl.1 (Nat.le_of_ble_eq_true rfl) d_V_countItems_48 ⟨Nat.zero_le _, Nat.zero_le _⟩ (fun H locs hP hD hS => ?_)
        obtain ⟨v2_6, ev2_6, hf⟩ := lt1_s hf
        refine lv_iinc (v := v2_6) (lv' := [(2, .int v2_6), (0, .ref (h 0)), (1, .int x1)]) hx hb d_V_countItems_51 hl (k := 2) rfl (by rw [← ev2_6]; rfl) (by decide) rfl (fun ls hl => ?_)
        refine lv_goto (tgt := 15) hx hb d_V_countItems_54 (by decide) ?_
        exact ih_15 dr es of_1 od_2 pl_3 hd_4 x1 v2_6 _ _ _ hf hP hD hS (lv_sub hl [1, 2, 0] rfl)
      intro dr es of od pl hd x1 x2 H locs ls hf hP hD hS hl
      rw [f_V_countItems_15] at hf
      refine lv_iload_n hx hb d_V_countItems_15 rfl (lv_at hl 2 rfl) ?_
      refine lv_ldc (v := 43691) hx hb hown (htb _ tw_664) d_V_countItems_16 ?_
      refine lv_icmp_ge (tgt := 57) hx hb d_V_countItems_18 (by decide) (fun c_1 => ?_) (fun c_1 => ?_)
      · have hf := ite_t c_1 hf
        refine lv_iload_n hx hb d_V_countItems_57 rfl (lv_at hl 1 rfl) ?_
        cases hf
        exact hret _ _ _ _ hP hD hS d_V_countItems_58
      · have hf := ite_f c_1 hf
        refine lv_aload_n hx hb d_V_countItems_21 rfl (lv_at hl 0 rfl) ?_
        refine va_get (D := (dC, dI)) (ci := 4) (v := .ref (h 5)) (C := R_V) (T := T_V) (N := 5) hx hb htb in_V hown hK hP 0 rfl rfl 2 (by decide) (htb _ tw_209) (fun _ h9 => h9) rfl d_V_countItems_22 ?_
        obtain ⟨r_2, hc_3, hf⟩ := bd1_s hf
        refine ucVi (As := []) (rest := []) ⟨hx, hb, hml, hown, htb⟩ hK hP hD hS hA (fun hs => c_E_isOn hc_3) (cwV 0 htb (gV tw_665 tw_443 tw_444 tw_72 tw_445) rfl rfl rfl (by decide +kernel) ⟨Nat.le_of_ble_eq_true rfl, Nat.le_of_ble_eq_true rfl⟩) 5 1 rfl rfl rfl rfl rfl hl.1 (Nat.le_of_ble_eq_true rfl) d_V_countItems_25 ⟨Nat.zero_le _, Nat.zero_le _⟩ (fun H locs hP hD hS => ?_)
        refine lv_if_eq (tgt := 57) hx hb d_V_countItems_28 (by decide) (fun c_4 => ?_) (fun c_4 => ?_)
        · have hf := ite_t c_4 hf
          refine lv_iload_n hx hb d_V_countItems_57 rfl (lv_at hl 1 rfl) ?_
          cases hf
          exact hret _ _ _ _ hP hD hS d_V_countItems_58
        · have hf := ite_f c_4 hf
          refine lv_aload_n hx hb d_V_countItems_31 rfl (lv_at hl 0 rfl) ?_
          refine va_get (D := (dC, dI)) (ci := 4) (v := .ref (h 5)) (C := R_V) (T := T_V) (N := 5) hx hb htb in_V hown hK hP 0 rfl rfl 2 (by decide) (htb _ tw_209) (fun _ h9 => h9) rfl d_V_countItems_32 ?_
          obtain ⟨r_5, hc_6, hf⟩ := bd1_s hf
          refine ucVi (As := []) (rest := []) ⟨hx, hb, hml, hown, htb⟩ hK hP hD hS hA (fun hs => c_E_isItem hc_6) (cwV 0 htb (gV tw_666 tw_515 tw_516 tw_72 tw_517) rfl rfl rfl (by decide +kernel) ⟨Nat.le_of_ble_eq_true rfl, Nat.le_of_ble_eq_true rfl⟩) 5 1 rfl rfl rfl rfl rfl hl.1 (Nat.le_of_ble_eq_true rfl) d_V_countItems_35 ⟨Nat.zero_le _, Nat.zero_le _⟩ (fun H locs hP hD hS => ?_)
          refine lv_if_eq (tgt := 44) hx hb d_V_countItems_38 (by decide) (fun c_7 => ?_) (fun c_7 => ?_)
          · have hf := ite_t c_7 hf
            exact hj_44 dr es of od pl hd x1 x2 _ _ _ hf hP hD hS (lv_sub hl [0, 1, 2] rfl)
          · have hf := ite_f c_7 hf
            obtain ⟨v1_8, ev1_8, hf⟩ := lt1_s hf
            refine lv_iinc (v := v1_8) (lv' := [(1, .int v1_8), (0, .ref (h 0)), (2, .int x2)]) hx hb d_V_countItems_41 hl (k := 1) rfl (by rw [← ev1_8]; rfl) (by decide) rfl (fun ls hl => ?_)
            exact hj_44 dr es of od pl hd v1_8 x2 _ _ _ hf hP hD hS (lv_sub hl [1, 0, 2] rfl)
  unfold f_V_countItems at hf
  refine lv_iconst (v := 0) hx hb d_V_countItems_0 (by decide) ?_
  refine lv_istore_n (lv' := [(1, .int ((0 : Int32))), (0, .ref (h 0))]) hx hb d_V_countItems_1 rfl hl (by decide) rfl (fun ls hl => ?_)
  refine lv_aload_n hx hb d_V_countItems_2 rfl (lv_at hl 1 rfl) ?_
  refine va_get (D := (dC, dI)) (ci := 4) (v := .ref (h 5)) (C := R_V) (T := T_V) (N := 5) hx hb htb in_V hown hK hP 0 rfl rfl 2 (by decide) (htb _ tw_209) (fun _ h9 => h9) rfl d_V_countItems_3 ?_
  refine lv_aload_n hx hb d_V_countItems_6 rfl (lv_at hl 1 rfl) ?_
  refine va_get (D := (dC, dI)) (ci := 4) (v := .int hr) (C := R_V) (T := T_V) (N := 5) hx hb htb in_V hown hK hP 0 rfl rfl 4 (by decide) (htb _ tw_211) (fun _ h9 => h9) rfl d_V_countItems_7 ?_
  obtain ⟨dr_1, es_2, of_3, od_4, pl_5, hd_6, hc_7, hf⟩ := bd6_s hf
  refine ucVv (As := [.int hr]) (rest := []) ⟨hx, hb, hml, hown, htb⟩ hK hP hD hS hA (fun hs => c_E_start hc_7) (cwV 1 htb (gV tw_663 tw_434 tw_435 tw_72 tw_436) rfl rfl rfl (by decide +kernel) ⟨Nat.le_of_ble_eq_true rfl, Nat.le_of_ble_eq_true rfl⟩) 5 1 rfl rfl rfl rfl rfl hl.1 (Nat.le_of_ble_eq_true rfl) d_V_countItems_10 ⟨Nat.zero_le _, Nat.zero_le _⟩ (fun H locs hP hD hS => ?_)
  refine lv_iconst (v := 0) hx hb d_V_countItems_13 (by decide) ?_
  refine lv_istore_n (lv' := [(2, .int ((0 : Int32))), (1, .int ((0 : Int32))), (0, .ref (h 0))]) hx hb d_V_countItems_14 rfl hl (by decide) rfl (fun ls hl => ?_)
  exact hj_15 N dr_1 es_2 of_3 od_4 pl_5 hd_6 ((0 : Int32)) ((0 : Int32)) _ _ _ hf hP hD hS (lv_sub hl [2, 1, 0] rfl)
set_option maxHeartbeats 4000000 in
set_option maxRecDepth 100000 in
theorem c_V_lastBlock {l : Launch} {dC : Nat → ClassId} {dI : Nat → Nat → Nat} {h : Nat → Nat} {cI : ClassId} {cL : ClassId} {NW : Nat} {bk : Int32} {sz : Int32} {wd : Nat → Int64} {mb : Nat → Int32} {gB : Int32} {gI : Int32} {gN : Int32} {iN : Int32} {dr : Int32} {es : Int64} {of : Int64} {od : Int32} {pl : Int64} {hd : Int64} {tk : Nat → Int32} {kn : Nat → Int32} {li : Nat → Int32} {pa : Nat → Int32} {ins : Nat → Int32} {cm : Int32} {fd : Int32} {hr : Int32} {hs : Nat} {a1 : Int32} {r : Int64} (hf : f_V_lastBlock NW sz wd mb gI a1 = some (r)) : Met l y_V_lastBlock ws_V_lastBlock { frames := 2, cells := 0, slots := 0, locals := 56 } (PcU (dC, dI) clAll [(cI, .int), (cL, .long)] (wC h cI cL NW bk sz wd mb gB gI gN iN dr es of od pl hd tk kn li pa ins cm fd hr) hs [.ref (h 0), .int a1]) (QUl (dC, dI) clAll [(cI, .int), (cL, .long)] (wC h cI cL NW bk sz wd mb gB gI gN iN dr es of od pl hd tk kn li pa ins cm fd hr) (wC h cI cL NW bk sz wd mb gB gI gN iN dr es of od pl hd tk kn li pa ins cm fd hr) hs r) 0 0 (va_A (wC h cI cL NW bk sz wd mb gB gI gN iN dr es of od pl hd tk kn li pa ins cm fd hr) hs) := by
  refine mUl (cc := b_V_lastBlock) (maxL := 3) (by decide) rfl (Nat.le_of_ble_eq_true rfl) ?_
  intro p e s m args below meth c Q hx hb hml hts hown A hA hK hP hD hS hret ls hl
  have htb : ∀ w ∈ TB, w.before args s = true := fun w h => hts w (List.mem_cons_of_mem _ h)
  have hl : lv_has ls 3 [(0, .ref (h 0)), (1, .int a1)] := hl
  unfold f_V_lastBlock at hf
  refine lv_aload_n hx hb d_V_lastBlock_0 rfl (lv_at hl 0 rfl) ?_
  refine va_get (D := (dC, dI)) (ci := 4) (v := .ref (h 3)) (C := R_V) (T := T_V) (N := 5) hx hb htb in_V hown hK hP 0 rfl rfl 1 (by decide) (htb _ tw_208) (fun _ h9 => h9) rfl d_V_lastBlock_1 ?_
  refine lv_aload_n hx hb d_V_lastBlock_4 rfl (lv_at hl 0 rfl) ?_
  refine va_get (D := (dC, dI)) (ci := 4) (v := .ref (h 3)) (C := R_V) (T := T_V) (N := 5) hx hb htb in_V hown hK hP 0 rfl rfl 1 (by decide) (htb _ tw_208) (fun _ h9 => h9) rfl d_V_lastBlock_5 ?_
  refine lv_iload_n hx hb d_V_lastBlock_8 rfl (lv_at hl 1 rfl) ?_
  obtain ⟨r_1, hc_2, hf⟩ := bd1_s hf
  refine ucVl (As := [.int a1]) (rest := [.ref (h 3)]) ⟨hx, hb, hml, hown, htb⟩ hK hP hD hS hA (fun hs => c_L_sizeOf hc_2) (cwV 1 htb (gV tw_712 tw_393 tw_394 tw_71 tw_395) rfl rfl rfl (by decide +kernel) ⟨Nat.le_of_ble_eq_true rfl, Nat.le_of_ble_eq_true rfl⟩) 3 2 rfl rfl rfl rfl rfl hl.1 (Nat.le_of_ble_eq_true rfl) d_V_lastBlock_9 ⟨Nat.zero_le _, Nat.zero_le _⟩ (fun H locs hP hD hS => ?_)
  obtain ⟨r_3, hc_4, hf⟩ := bd1_s hf
  refine ucVi (As := [.long r_1]) (rest := []) ⟨hx, hb, hml, hown, htb⟩ hK hP hD hS hA (fun hs => c_L_blocksFor hc_4) (cwV 1 htb (gV tw_718 tw_398 tw_399 tw_71 tw_400) rfl rfl rfl (by decide +kernel) ⟨Nat.le_of_ble_eq_true rfl, Nat.le_of_ble_eq_true rfl⟩) 3 2 rfl rfl rfl rfl rfl hl.1 (Nat.le_of_ble_eq_true rfl) d_V_lastBlock_12 ⟨Nat.zero_le _, Nat.zero_le _⟩ (fun H locs hP hD hS => ?_)
  refine lv_istore_n (lv' := [(2, .int r_3), (0, .ref (h 0)), (1, .int a1)]) hx hb d_V_lastBlock_15 rfl hl (by decide) rfl (fun ls hl => ?_)
  refine lv_iload_n hx hb d_V_lastBlock_16 rfl (lv_at hl 0 rfl) ?_
  refine lv_if_le (tgt := 34) hx hb d_V_lastBlock_17 (by decide) (fun c_5 => ?_) (fun c_5 => ?_)
  · have hf := ite_t c_5 hf
    refine lv_lconst (v := 0) hx hb d_V_lastBlock_34 (by decide) ?_
    cases hf
    exact hret _ _ _ _ hP hD hS d_V_lastBlock_35
  · have hf := ite_f c_5 hf
    refine lv_aload_n hx hb d_V_lastBlock_20 rfl (lv_at hl 1 rfl) ?_
    refine va_get (D := (dC, dI)) (ci := 4) (v := .ref (h 3)) (C := R_V) (T := T_V) (N := 5) hx hb htb in_V hown hK hP 0 rfl rfl 1 (by decide) (htb _ tw_208) (fun _ h9 => h9) rfl d_V_lastBlock_21 ?_
    refine lv_iload_n hx hb d_V_lastBlock_24 rfl (lv_at hl 2 rfl) ?_
    refine lv_iload_n hx hb d_V_lastBlock_25 rfl (lv_at hl 0 rfl) ?_
    refine lv_iconst (v := 1) hx hb d_V_lastBlock_26 (by decide) ?_
    refine lv_isub hx hb d_V_lastBlock_27 ?_
    obtain ⟨r_6, hc_7, hf⟩ := bd1_s hf
    refine ucVl (As := [.int a1, .int (r_3 - ((1 : Int32)))]) (rest := []) ⟨hx, hb, hml, hown, htb⟩ hK hP hD hS hA (fun hs => c_L_blockOf hc_7) (cwV 2 htb (gV tw_719 tw_419 tw_420 tw_71 tw_421) rfl rfl rfl (by decide +kernel) ⟨Nat.le_of_ble_eq_true rfl, Nat.le_of_ble_eq_true rfl⟩) 3 2 rfl rfl rfl rfl rfl hl.1 (Nat.le_of_ble_eq_true rfl) d_V_lastBlock_28 ⟨Nat.zero_le _, Nat.zero_le _⟩ (fun H locs hP hD hS => ?_)
    refine lv_goto (tgt := 35) hx hb d_V_lastBlock_31 (by decide) ?_
    cases hf
    exact hret _ _ _ _ hP hD hS d_V_lastBlock_35
end
