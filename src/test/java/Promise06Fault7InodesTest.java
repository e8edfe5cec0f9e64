/** Promise 6, fault 7: which inodes are used, and the bytes of those that are nobody's. */
public final class Promise06Fault7InodesTest {
    public static void main(String[] args) {
        Cases.run(Promise06Fault7InodesTest.class);
    }

    private static boolean cameUp(int inode) {
        return inode == 2 || inode >= 11 && inode <= 15 || inode == 20;
    }

    private static void use(VolumeMaker v, int inode, boolean used) {
        int each = v.inodesPerGroup;
        v.bit(v.map[(inode - 1) / each] + 1, (inode - 1) % each, used);
    }

    static void promise6_fault7_aUsedInodeThatDidNotComeUp(Check check) {
        for (int i = 12; i <= 32; i++) {
            int inode = i;
            if (!cameUp(i)) {
                Volumes.expect(check, "inode " + i, 7, v -> use(v, inode, true));
            }
        }
    }

    static void promise6_fault7_aReservedInodeThatIsNotUsed(Check check) {
        for (int i = 1; i <= 10; i++) {
            int inode = i;
            if (i != 2) {
                Volumes.expect(check, "inode " + i, 7, v -> use(v, inode, false));
            }
        }
        Volumes.expect(check, "inode 11, where it did not come up", 7, v -> {
            takeOut(v, true);
            use(v, 11, false);
        });
    }

    static void promise6_fault7_notForAReservedInodeThatIsUsed(Check check) {
        Volumes.expect(check, "inode 11, where it did not come up", 0, v -> takeOut(v, true));
        Volumes.judge(check, "a volume in which none comes up", 0, new VolumeMaker(128, 64, 16).make());
    }

    /** 8 inodes in all: there are no inodes 9 to 11 that could be used. */
    static void promise6_fault7_aVolumeOfEightInodes(Check check) {
        Volumes.judge(check, "8 inodes, all used", 0, Volumes.bare().make());
        for (int i = 1; i <= 8; i++) {
            if (i != 2) {
                VolumeMaker v = Volumes.bare().make();
                use(v, i, false);
                Volumes.judge(check, "inode " + i + " is not used", 7, v);
            }
        }
    }

    /** With 8 in a group the reserved inodes 9 to 11 are in the second group, 12 to 16 are not used there. */
    static void promise6_fault7_reservedInodesOfTheSecondGroup(Check check) {
        for (int i = 9; i <= 16; i++) {
            VolumeMaker v = new VolumeMaker(512, 64, 8).make();
            use(v, i, i > 11);
            Volumes.judge(check, "inode " + i, 7, v);
        }
    }

    static void promise6_fault7_aByteOfAnInodeThatIsNotUsed(Check check) {
        for (int i = 16; i <= 32; i++) {
            int inode = i;
            if (!cameUp(i)) {
                for (int at : new int[] {0, 1, 7, 8, 26, 63, 64, 120, 127}) {
                    Volumes.expect(check, "byte " + at + " of inode " + i, 7,
                            v -> v.poke(v.inodePlace(inode) + at, 1, 64));
                }
            }
        }
    }

    static void promise6_fault7_everyByteOfTheLastInode(Check check) {
        for (int at = 0; at < 128; at++) {
            int byteOf = at;
            Volumes.expect(check, "byte " + at, 7, v -> v.poke(v.inodePlace(32) + byteOf, 1, 1 << byteOf % 8));
        }
        VolumeMaker v = Volumes.small(512, 64, 8).make();
        v.poke(v.inodePlace(64) + 127, 1, 128);
        Volumes.judge(check, "the last one of eight groups", 7, v);
    }

    static void promise6_fault7_aByteOfAReservedInodeThatDidNotComeUp(Check check) {
        for (int i = 1; i <= 10; i++) {
            int inode = i;
            if (i != 2) {
                for (int at : new int[] {0, 4, 7, 8, 127}) {
                    Volumes.expect(check, "byte " + at + " of inode " + i, 7,
                            v -> v.poke(v.inodePlace(inode) + at, 1, 1));
                }
            }
        }
        Volumes.expect(check, "inode 11, where it did not come up", 7, v -> takeOut(v, false));
    }

    /** Its block is "nobody else's" all the same, since only the root and those that came up have blocks. */
    static void promise6_fault7_aBlockOfTheRootThatAnInodeOutsideNamesToo(Check check) {
        for (int i : new int[] {1, 5, 16, 32}) {
            int inode = i;
            Volumes.expect(check, "inode " + i + " is a copy of the root's", 7, v ->
                    System.arraycopy(v.image, v.inodePlace(2), v.image, v.inodePlace(inode), 128));
        }
    }

    static void promise6_fault7_anItemThatBecomesEmpty(Check check) {
        Volumes.expect(check, "the entry of none", 7, v -> v.poke(v.entryPlace(v.root, Volumes.EMPTY_FILE), 4, 0));
        Volumes.expect(check, "all items of the root", 7, v -> {
            v.poke(v.entryPlace(v.root, -1) + 4, 2, 1012);
            v.poke(v.inodePlace(2) + 26, 2, 2);
        });
    }

    /** Takes lost+found out of the small volume, and its blocks out of the map. */
    private static void takeOut(VolumeMaker v, boolean blank) {
        VolumeMaker.Node lost = v.root.inside.get(0);
        v.poke(v.entryPlace(v.root, 0), 4, 0);
        v.root.inside.remove(0);
        v.poke(v.inodePlace(2) + 26, 2, 3);
        for (int b : lost.blocks) {
            v.taken[b] = false;
        }
        for (int i = 0; blank && i < 128; i++) {
            v.poke(v.inodePlace(11) + i, 1, 0);
        }
        v.count();
    }
}
