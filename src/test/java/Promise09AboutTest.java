/** Promise 9: about. */
public final class Promise09AboutTest {
    private static final int INODE = 0;
    private static final int KIND = 1;
    private static final int SIZE = 2;
    private static final int LINKS = 3;
    private static final int AT_16 = 4;
    private static final int LAST_BLOCK = 5;

    public static void main(String[] args) {
        Cases.run(Promise09AboutTest.class);
    }

    /** What the small volume's items answer, those of the root and then those of sub. */
    private static void answers(Check check, int what, long... due) {
        InodeVolumes x = Volumes.small().make().load();
        for (int k = 0; k < 4; k++) {
            check.same("item " + k + " of the root", x.about(k, what), due[k]);
        }
        x.enter(Volumes.SUB);
        for (int k = 0; k < 2; k++) {
            check.same("item " + k + " of sub", x.about(k, what), due[4 + k]);
        }
    }

    static void promise9_0IsItsInode(Check check) {
        answers(check, INODE, 11, 12, 20, 15, 13, 14);
        VolumeMaker v = Volumes.small();
        int[] edges = {1, 16, 17, 32};
        for (int inode : edges) {
            v.file(v.root, "at a group's edge", inode, 100 + inode);
        }
        InodeVolumes x = v.make().load();
        for (int i = 0; i < edges.length; i++) {
            check.same("inode " + edges[i], x.about(4 + i, INODE), edges[i]);
            check.same("its size", x.about(4 + i, SIZE), 100 + edges[i]);
        }
    }

    static void promise9_1IsWhetherItIsADirectory(Check check) {
        answers(check, KIND, 1, 0, 1, 0, 1, 0);
    }

    static void promise9_2IsItsSize(Check check) {
        answers(check, SIZE, 2048, 1500, 1024, 0, 1024, 13 * 1024 + 1);
        check.same("the greatest size", Volumes.full().load().about(0, SIZE), 497 * 1024);
    }

    static void promise9_3AreItsLinks(Check check) {
        answers(check, LINKS, 2, 1, 3, 1, 2, 1);
        VolumeMaker v = new VolumeMaker(128, 256, 64);
        VolumeMaker.Node top = v.directory(v.root, "top", 12);
        for (int i = 0; i < 40; i++) {
            v.directory(top, "d" + i, 20 + i);
        }
        check.same("42 links", v.make().load().about(0, LINKS), 42);
    }

    static void promise9_4IsTheNumberAt16(Check check) {
        for (long time : new long[] {0, 1, 255, 256, 65536, 0x7FFFFFFFL, 0x80000000L, 0xFFFFFFFEL, 0xFFFFFFFFL}) {
            VolumeMaker v = Volumes.small().make();
            int at = v.inodePlace(20);
            v.poke(at + 12, 4, -1);
            v.poke(at + 16, 4, time);
            v.poke(at + 20, 4, -1);
            InodeVolumes x = v.load();
            check.same("a directory with " + time, x.about(Volumes.SUB, AT_16), time);
            check.same("a file with the most", x.about(Volumes.A, AT_16), 4294967295L);
            check.same("a file with 0", x.about(Volumes.EMPTY_FILE, AT_16), 0);
        }
    }

    private static long lastBlock(int size, VolumeMaker v) {
        VolumeMaker.Node f = v.file(v.root, "f", 12, size);
        f.blank = true;
        v.make();
        return f.blocks.isEmpty() ? 0 : f.blocks.get(f.blocks.size() - 1);
    }

    /** Each size at which a block begins, and those at which another kind of pointer is needed. */
    static void promise9_5IsTheBlockWithItsLastByte(Check check) {
        for (int blocks : new int[] {1, 2, 3, 11, 12, 13, 14, 267, 268, 269, 270, 400}) {
            for (int size : new int[] {1024 * (blocks - 1) + 1, 1024 * blocks - 1, 1024 * blocks}) {
                VolumeMaker v = new VolumeMaker(512, 256, 16);
                v.any = new java.util.Random(size);
                long due = lastBlock(size, v);
                check.same("a file of " + size, v.load().about(0, LAST_BLOCK), due);
            }
        }
        VolumeMaker full = Volumes.full();
        check.same("the greatest file", full.load().about(0, LAST_BLOCK), Volumes.inside(full.root, 0).blocks.get(496));
    }

    static void promise9_5IsADirectorysLastBlock(Check check) {
        VolumeMaker v = Volumes.small().make();
        check.same("lost+found", v.load().about(Volumes.LOST, LAST_BLOCK),
                Volumes.inside(v.root, Volumes.LOST).blocks.get(1));
        v = Volumes.small();
        Volumes.inside(v.root, Volumes.LOST).leastBlocks = 14;
        v.make();
        check.same("lost+found of 14 blocks", v.load().about(Volumes.LOST, LAST_BLOCK),
                Volumes.inside(v.root, Volumes.LOST).blocks.get(13));
    }

    static void promise9_5Is0WithoutALastByte(Check check) {
        check.same("a file of no size", Volumes.small().make().load().about(Volumes.EMPTY_FILE, LAST_BLOCK), 0);
        VolumeMaker v = Volumes.small().make();
        v.poke(v.inodePlace(15) + 32, 8, -1);
        v.poke(v.inodePlace(15) + 100, 8, -1);
        check.same("with other bytes ahead of and behind its pointers", v.load().about(Volumes.EMPTY_FILE, LAST_BLOCK), 0);
    }

    static void promise9_throwsForAnotherWhat(Check check) {
        InodeVolumes x = Volumes.small().make().load();
        for (int what : new int[] {-1, -2, 6, 7, 256, 65536, Integer.MIN_VALUE, Integer.MAX_VALUE}) {
            for (int k = 0; k < 4; k++) {
                int item = k;
                check.raises("about " + item + ", " + what, Volumes.ARGUMENT, () -> x.about(item, what));
            }
        }
    }

    static void promise9_throwsForNoItem(Check check) {
        InodeVolumes x = Volumes.small().make().load();
        check.same("the last item", x.about(3, INODE), 15);
        for (int k : new int[] {-1, -2, 4, 5, Integer.MIN_VALUE, Integer.MAX_VALUE}) {
            for (int what = 0; what <= 5; what++) {
                int each = what;
                check.raises("about " + k + ", " + what, Volumes.BOUNDS, () -> x.about(k, each));
            }
        }
    }

    /** The order in which the document names the exceptions. */
    static void promise9_throwsForNoItemAheadOfAnotherWhat(Check check) {
        InodeVolumes x = Volumes.small().make().load();
        check.raises("about 4, 6", Volumes.BOUNDS, () -> x.about(4, 6));
        check.raises("about -1, -1", Volumes.BOUNDS, () -> x.about(-1, -1));
    }

    static void promise9_throwsInADirectoryWithoutItems(Check check) {
        InodeVolumes x = Volumes.bare().make().load();
        check.raises("about 0, 0", Volumes.BOUNDS, () -> x.about(0, 0));
    }

    static void promise9_throwsWithAFault(Check check) {
        for (InodeVolumes x : Volumes.unsound()) {
            for (int k : new int[] {0, -1, 1000}) {
                for (int what : new int[] {0, 5, -1, 6}) {
                    check.raises("fault " + x.fault(), Volumes.STATE, () -> x.about(k, what));
                }
            }
        }
    }

    static void promise9_leavesHereAlone(Check check) {
        InodeVolumes x = Volumes.inSub();
        x.about(Volumes.DEEP, INODE);
        check.raises("item 2", Volumes.BOUNDS, () -> x.about(2, INODE));
        check.raises("what 6", Volumes.ARGUMENT, () -> x.about(0, 6));
        check.yes("HERE is sub", Volumes.isInSub(x));
    }
}
