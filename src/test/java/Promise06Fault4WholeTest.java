import java.util.function.Consumer;

/** Promise 6, fault 4: the root, and what it is to be whole, for the root and for every inode that comes up. */
public final class Promise06Fault4WholeTest {
    /** The small volume's inodes, and those of them that have a block. */
    private static final int[] ALL = {2, 11, 12, 13, 14, 15, 20};
    private static final int[] WITH_BLOCKS = {2, 11, 12, 13, 14, 20};
    /** No block's numbers, and those of blocks that are fixed. */
    private static final long[] NO_BLOCK = {0, 128, 129, 512, 65536 + 100, 0x80000000L, 0x80000064L, 0xFFFFFFFFL};
    private static final long[] FIXED = {1, 2, 3, 4, 5, 6, 65, 66, 67, 68, 69, 70};
    private static final int FREE = 127;

    public static void main(String[] args) {
        Cases.run(Promise06Fault4WholeTest.class);
    }

    private static void isFault(Check check, String what, Consumer<VolumeMaker> change) {
        Volumes.expect(check, what, 4, change);
    }

    private static int indirect(VolumeMaker v, int inode) {
        return (int) v.peek(v.inodePlace(inode) + 88, 4);
    }

    private static int outer(VolumeMaker v, int inode) {
        return (int) v.peek(v.inodePlace(inode) + 92, 4);
    }

    private static int inner(VolumeMaker v, int inode) {
        return (int) v.peek(1024 * outer(v, inode), 4);
    }

    static void promise6_fault4_theRootIsNotUsed(Check check) {
        isFault(check, "the root's bit is 0", v -> v.bit(v.map[0] + 1, 1, false));
    }

    static void promise6_fault4_theRootIsNoDirectory(Check check) {
        for (int type = 0; type < 16; type++) {
            int bits = 4096 * type;
            Volumes.expect(check, "the root's type is " + bits, bits == 16384 ? 0 : 4,
                    v -> v.poke(v.inodePlace(2), 2, bits + 0755));
        }
    }

    static void promise6_fault4_theTypesLowest12BitsDoNotCount(Check check) {
        for (int bits : new int[] {0, 1, 2048, 4095}) {
            Volumes.expect(check, "lowest bits " + bits, 0, v -> v.poke(v.inodePlace(2), 2, 16384 + bits));
        }
    }

    static void promise6_fault4_aSizeOfMoreThanTheDisk(Check check) {
        for (int inode : ALL) {
            for (long size : new long[] {1024 * 128, 1024 * 128 + 1, 0x7FFFFFFFL, 0x80000000L, 0xFFFFFFFFL}) {
                isFault(check, "inode " + inode + " with a size of " + size,
                        v -> v.poke(v.inodePlace(inode) + 4, 4, size));
            }
            isFault(check, "inode " + inode + " with the size's highest bit",
                    v -> v.poke(v.inodePlace(inode) + 7, 1, v.peek(v.inodePlace(inode) + 7, 1) | 128));
        }
    }

    /** Where no block's number is wrong: a size of all the disk wants one block more than there are. */
    static void promise6_fault4_aSizeOfAllTheDisk(Check check) {
        VolumeMaker v = Volumes.full();
        int at = v.inodePlace(3);
        v.poke(at + 4, 4, 512 * 1024);
        v.poke(at + 28, 4, 2 * (512 + 3));
        v.mirror();
        Volumes.judge(check, "a size of 1024 * B", 4, v);
    }

    static void promise6_fault4_at28AreTwiceTheBlocks(Check check) {
        int[][] due = {{2, 2}, {11, 4}, {12, 4}, {13, 2}, {14, 30}, {15, 0}, {20, 2}};
        for (int[] d : due) {
            int inode = d[0];
            VolumeMaker made = Volumes.small().make();
            check.same("inode " + inode + " at 28", made.peek(made.inodePlace(inode) + 28, 4), d[1]);
            for (long n : new long[] {d[1] - 2, d[1] - 1, d[1] + 1, d[1] + 2, d[1] / 2, d[1] + 65536, d[1] + (1L << 31)}) {
                if (n != d[1]) {
                    isFault(check, "inode " + inode + ": " + n + " at 28",
                            v -> v.poke(v.inodePlace(inode) + 28, 4, n));
                }
            }
        }
    }

    static void promise6_fault4_at28TheIndirectBlocksAreCounted(Check check) {
        for (int[] d : new int[][] {{12, 12}, {13, 14}, {268, 269}, {269, 272}, {480, 483}}) {
            VolumeMaker v = Volumes.withFile(d[0]);
            check.same(d[0] + " blocks", v.peek(v.inodePlace(12) + 28, 4), 2 * d[1]);
            Volumes.judge(check, d[0] + " blocks", 0, v);
            for (int more : new int[] {-6, -4, -2, -1, 1, 2, 4, 6}) {
                v = Volumes.withFile(d[0]);
                v.poke(v.inodePlace(12) + 28, 4, 2 * d[1] + more);
                Volumes.judge(check, d[0] + " blocks, at 28 by " + more + " more", 4, v);
            }
        }
    }

    /** A size of one byte more than whole blocks wants one block more. */
    static void promise6_fault4_theBlocksAreTheSizeUp(Check check) {
        Volumes.expect(check, "1025 bytes in two blocks", 0, v -> v.poke(v.inodePlace(12) + 4, 4, 1025));
        Volumes.expect(check, "2048 bytes in two blocks", 0, v -> v.poke(v.inodePlace(12) + 4, 4, 2048));
        isFault(check, "1024 bytes in two blocks", v -> v.poke(v.inodePlace(12) + 4, 4, 1024));
        isFault(check, "2049 bytes in two blocks", v -> v.poke(v.inodePlace(12) + 4, 4, 2049));
        isFault(check, "1 byte in no block", v -> v.poke(v.inodePlace(15) + 4, 4, 1));
        isFault(check, "0 bytes in two blocks", v -> v.poke(v.inodePlace(12) + 4, 4, 0));
    }

    static void promise6_fault4_anUnwantedPointerOfThe12(Check check) {
        for (int i = 0; i < 12; i++) {
            int at = 40 + 4 * i;
            for (int wanted = 0; wanted <= 12; wanted++) {
                VolumeMaker v = new VolumeMaker(128, 64, 16);
                v.file(v.root, "f", 12, 1024 * wanted);
                v.make();
                if (i >= wanted) {
                    v.poke(v.inodePlace(12) + at, 4, FREE);
                    Volumes.judge(check, wanted + " blocks, and pointer " + i, 4, v);
                    v.poke(v.inodePlace(12) + at, 4, 1L << 31);
                    Volumes.judge(check, wanted + " blocks, and pointer " + i + "'s highest bit", 4, v);
                }
            }
        }
    }

    static void promise6_fault4_anUnwanted13thPointer(Check check) {
        for (int inode : new int[] {2, 11, 12, 13, 15, 20}) {
            isFault(check, "inode " + inode, v -> v.poke(v.inodePlace(inode) + 88, 4, FREE));
            isFault(check, "inode " + inode + ", highest byte", v -> v.poke(v.inodePlace(inode) + 91, 1, 1));
        }
        VolumeMaker v = Volumes.withFile(12);
        v.poke(v.inodePlace(12) + 88, 4, 500);
        Volumes.judge(check, "12 blocks", 4, v);
    }

    static void promise6_fault4_anUnwanted14thPointer(Check check) {
        for (int inode : ALL) {
            isFault(check, "inode " + inode, v -> v.poke(v.inodePlace(inode) + 92, 4, FREE));
            isFault(check, "inode " + inode + ", highest byte", v -> v.poke(v.inodePlace(inode) + 95, 1, 1));
        }
        for (int n : new int[] {13, 267, 268}) {
            VolumeMaker v = Volumes.withFile(n);
            v.poke(v.inodePlace(12) + 92, 4, 500);
            Volumes.judge(check, n + " blocks", 4, v);
        }
    }

    static void promise6_fault4_the15thPointerIsNeverWanted(Check check) {
        for (int inode : ALL) {
            isFault(check, "inode " + inode, v -> v.poke(v.inodePlace(inode) + 96, 4, FREE));
            isFault(check, "inode " + inode + ", highest byte", v -> v.poke(v.inodePlace(inode) + 99, 1, 1));
        }
        for (int n : new int[] {12, 13, 268, 269, 480}) {
            VolumeMaker v = Volumes.withFile(n);
            v.poke(v.inodePlace(12) + 96, 4, 500);
            Volumes.judge(check, n + " blocks", 4, v);
        }
    }

    static void promise6_fault4_aWantedPointerThatIsNoBlock(Check check) {
        for (int inode : WITH_BLOCKS) {
            for (long b : NO_BLOCK) {
                isFault(check, "inode " + inode + ": " + b, v -> v.poke(v.inodePlace(inode) + 40, 4, b));
            }
        }
    }

    static void promise6_fault4_aBlockThatIsFixed(Check check) {
        for (int inode : WITH_BLOCKS) {
            for (long b : FIXED) {
                isFault(check, "inode " + inode + ": " + b, v -> v.poke(v.inodePlace(inode) + 40, 4, b));
            }
        }
    }

    /** The last block, in place of another one, is the map's affair alone. */
    static void promise6_fault4_notForTheDisksLastBlock(Check check) {
        Volumes.expect(check, "block 127 in place of another", 8, v -> v.poke(v.inodePlace(12) + 44, 4, FREE));
        Volumes.expect(check, "block 127, as the map says", 0, v -> {
            int was = (int) v.peek(v.inodePlace(12) + 44, 4);
            v.poke(v.inodePlace(12) + 44, 4, FREE);
            v.taken[was] = false;
            v.taken[FREE] = true;
            v.count();
        });
    }

    static void promise6_fault4_aBlockTwiceInOneInode(Check check) {
        isFault(check, "its first block is its second", v -> v.poke(v.inodePlace(12) + 44, 4,
                v.peek(v.inodePlace(12) + 40, 4)));
        isFault(check, "its indirect block is its first", v -> v.poke(v.inodePlace(14) + 40, 4, indirect(v, 14)));
        isFault(check, "its indirect block points to itself", v -> v.poke(1024 * indirect(v, 14), 4, indirect(v, 14)));
        isFault(check, "its 13th is its 14th block", v -> v.poke(1024 * indirect(v, 14) + 4, 4,
                v.peek(1024 * indirect(v, 14), 4)));
        isFault(check, "its 14th is its 12th block", v -> v.poke(1024 * indirect(v, 14) + 4, 4,
                v.peek(v.inodePlace(14) + 84, 4)));
    }

    /** In the order in which they come up, each with a block of one before it; and a file with those of all others. */
    static void promise6_fault4_aBlockOfAnotherInode(Check check) {
        int[] order = {2, 11, 12, 20, 13, 14};
        for (int i = 0; i < order.length; i++) {
            for (int j = 0; j < order.length; j++) {
                int inode = order[i];
                int other = order[j];
                if (j < i || inode == 12 && i != j) {
                    isFault(check, "inode " + inode + " with a block of " + other, v -> v.poke(
                            v.inodePlace(inode) + 40, 4, v.peek(v.inodePlace(other) + 40, 4)));
                }
            }
        }
        isFault(check, "another's indirect block", v -> v.poke(v.inodePlace(12) + 40, 4, indirect(v, 14)));
        isFault(check, "another's block behind an indirect one", v -> v.poke(v.inodePlace(12) + 40, 4,
                v.peek(1024 * indirect(v, 14) + 4, 4)));
    }

    static void promise6_fault4_theIndirectBlock(Check check) {
        for (long b : NO_BLOCK) {
            isFault(check, "the 13th pointer is " + b, v -> v.poke(v.inodePlace(14) + 88, 4, b));
        }
        for (long b : FIXED) {
            isFault(check, "the 13th pointer is " + b, v -> v.poke(v.inodePlace(14) + 88, 4, b));
        }
    }

    static void promise6_fault4_aBlockBehindTheIndirectOne(Check check) {
        for (int i : new int[] {0, 4}) {
            for (long b : NO_BLOCK) {
                isFault(check, "pointer " + i / 4 + " is " + b, v -> v.poke(1024 * indirect(v, 14) + i, 4, b));
            }
            for (long b : FIXED) {
                isFault(check, "pointer " + i / 4 + " is " + b, v -> v.poke(1024 * indirect(v, 14) + i, 4, b));
            }
        }
        for (int n : new int[] {13, 268, 269}) {
            VolumeMaker v = Volumes.withFile(n);
            v.poke(1024 * indirect(v, 12) + 4 * (Math.min(n, 268) - 13), 4, 0);
            Volumes.judge(check, "the last of the indirect block's pointers, of " + n + " blocks", 4, v);
        }
    }

    static void promise6_fault4_notForPointersBehindTheWantedOnes(Check check) {
        Volumes.expect(check, "behind an indirect block's pointers", 0, v -> {
            v.poke(1024 * indirect(v, 14) + 8, 8, -1);
            v.poke(1024 * indirect(v, 14) + 16, 4, 1);
            v.poke(1024 * indirect(v, 14) + 1016, 8, -1);
        });
        VolumeMaker v = Volumes.withFile(269);
        v.poke(1024 * outer(v, 12) + 4, 4, 1);
        v.poke(1024 * outer(v, 12) + 1016, 8, -1);
        v.poke(1024 * inner(v, 12) + 4, 4, 1);
        v.poke(1024 * inner(v, 12) + 1016, 8, -1);
        Volumes.judge(check, "behind a doubly indirect block's pointers", 0, v);
    }

    static void promise6_fault4_notForAnyNumberOfBlocks(Check check) {
        for (int n : new int[] {1, 2, 11, 12, 13, 14, 140, 267, 268, 269, 270, 400, 480}) {
            Volumes.judge(check, n + " blocks", 0, Volumes.withFile(n));
        }
    }

    static void promise6_fault4_theDoublyIndirectBlock(Check check) {
        for (long b : new long[] {0, 1, 258, 512, 0xFFFFFFFFL}) {
            VolumeMaker v = Volumes.withFile(269);
            v.poke(v.inodePlace(12) + 92, 4, b);
            Volumes.judge(check, "the 14th pointer is " + b, 4, v);
            v = Volumes.withFile(269);
            v.poke(1024 * outer(v, 12), 4, b);
            Volumes.judge(check, "its first pointer is " + b, 4, v);
            v = Volumes.withFile(269);
            v.poke(1024 * inner(v, 12), 4, b);
            Volumes.judge(check, "the 269th block is " + b, 4, v);
            v = Volumes.withFile(480);
            v.poke(1024 * inner(v, 12) + 4 * 211, 4, b);
            Volumes.judge(check, "the 480th block is " + b, 4, v);
        }
    }

    /** The right block but for a bit far above the number of blocks. */
    static void promise6_fault4_theHighBitsOfEachPointer(Check check) {
        VolumeMaker made = Volumes.withFile(269);
        int inode = made.inodePlace(12);
        int[] pointers = {inode + 40, inode + 84, inode + 88, inode + 92, 1024 * indirect(made, 12),
            1024 * indirect(made, 12) + 1020, 1024 * outer(made, 12), 1024 * inner(made, 12)};
        for (int at : pointers) {
            for (int bit : new int[] {9, 16, 23, 24, 31}) {
                VolumeMaker v = Volumes.withFile(269);
                v.poke(at, 4, v.peek(at, 4) + (1L << bit));
                Volumes.judge(check, "bit " + bit + " of the pointer at " + at, 4, v);
            }
        }
    }

    static void promise6_fault4_theDoublyIndirectBlockTwice(Check check) {
        VolumeMaker v = Volumes.withFile(269);
        v.poke(v.inodePlace(12) + 92, 4, indirect(v, 12));
        Volumes.judge(check, "the 13th pointer's block is the 14th's", 4, v);
        v = Volumes.withFile(269);
        v.poke(1024 * outer(v, 12), 4, indirect(v, 12));
        Volumes.judge(check, "its indirect block is the 13th pointer's", 4, v);
        v = Volumes.withFile(269);
        v.poke(1024 * outer(v, 12), 4, outer(v, 12));
        Volumes.judge(check, "it points to itself", 4, v);
        v = Volumes.withFile(269);
        v.poke(1024 * inner(v, 12), 4, inner(v, 12));
        Volumes.judge(check, "its indirect block points to itself", 4, v);
        v = Volumes.withFile(269);
        v.poke(1024 * inner(v, 12), 4, v.peek(v.inodePlace(12) + 40, 4));
        Volumes.judge(check, "the 269th block is the first one", 4, v);
    }

    static void promise6_fault4_anItemThatIsTheRoot(Check check) {
        isFault(check, "in the root", v -> v.poke(v.entryPlace(v.root, Volumes.LOST), 4, 2));
        isFault(check, "in sub", v -> v.poke(v.entryPlace(Volumes.inside(v.root, Volumes.SUB), Volumes.DEEP), 4, 2));
    }

    static void promise6_fault4_anItemThatCameUpBefore(Check check) {
        isFault(check, "twice in one directory", v -> v.poke(v.entryPlace(v.root, Volumes.EMPTY_FILE), 4, 12));
        isFault(check, "a file of the parent's", v -> v.poke(
                v.entryPlace(Volumes.inside(v.root, Volumes.SUB), Volumes.LONG_FILE), 4, 15));
        isFault(check, "a directory in itself", v -> v.poke(
                v.entryPlace(Volumes.inside(v.root, Volumes.SUB), Volumes.DEEP), 4, 20));
        isFault(check, "a directory of the parent's", v -> v.poke(
                v.entryPlace(Volumes.inside(v.root, Volumes.SUB), Volumes.DEEP), 4, 11));
    }

    /** Files and directories of no size have no block that could be somebody else's. */
    static void promise6_fault4_anItemWithoutBlocksThatCameUpBefore(Check check) {
        VolumeMaker v = new VolumeMaker(128, 64, 16);
        v.file(v.root, "one", 12, 0);
        v.file(v.root, "two", 13, 0);
        v.make();
        Volumes.judge(check, "two files of no size", 0, v);
        v.poke(v.entryPlace(v.root, 1), 4, 12);
        Volumes.judge(check, "the same file twice", 4, v);
    }
}
