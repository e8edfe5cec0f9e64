import java.util.function.Consumer;

/** Promise 6, fault 5: the entries of the directories. */
public final class Promise06Fault5EntriesTest {
    private static final int[] DIRECTORIES = {2, 11, 13, 20};
    private static final int DOT = -2;
    private static final int DOTS = -1;

    public static void main(String[] args) {
        Cases.run(Promise06Fault5EntriesTest.class);
    }

    private static void isFault(Check check, String what, Consumer<VolumeMaker> change) {
        Volumes.expect(check, what, 5, change);
    }

    private static int entry(VolumeMaker v, int inode, int item) {
        return v.entryPlace(Volumes.find(v.root, inode), item);
    }

    /** For the root's items, where their entries have n bytes at a place. */
    private static void isFaultOfItem(Check check, String what, int at, int n, long... values) {
        for (int k = 0; k < 4; k++) {
            int item = k;
            for (long value : values) {
                isFault(check, what + " of item " + k + " is " + value,
                        v -> v.poke(v.entryPlace(v.root, item) + at, n, value));
            }
        }
    }

    private static void setSize(VolumeMaker v, int inode, int size) {
        v.poke(v.inodePlace(inode) + 4, 4, size);
    }

    static void promise6_fault5_aSizeThatIsNoMultipleOf1024(Check check) {
        for (int inode : DIRECTORIES) {
            int whole = inode == 11 ? 2048 : 1024;
            for (int less : new int[] {1, 4, 512, 1023}) {
                isFault(check, "directory " + inode + " by " + less + " less", v -> setSize(v, inode, whole - less));
            }
        }
    }

    static void promise6_fault5_aSizeOf0(Check check) {
        for (int inode : new int[] {2, 13, 20}) {
            isFault(check, "directory " + inode, v -> {
                setSize(v, inode, 0);
                v.poke(v.inodePlace(inode) + 28, 4, 0);
                v.poke(v.inodePlace(inode) + 40, 4, 0);
            });
        }
    }

    static void promise6_fault5_anEntryOfLessThan12Bytes(Check check) {
        isFaultOfItem(check, "the length", 4, 2, 0, 1, 4, 8, 11);
        for (int inode : DIRECTORIES) {
            for (int length : new int[] {0, 1, 4, 8, 11}) {
                isFault(check, "'.' of " + inode + ": " + length, v -> v.poke(entry(v, inode, DOT) + 4, 2, length));
                isFault(check, "'..' of " + inode + ": " + length, v -> v.poke(entry(v, inode, DOTS) + 4, 2, length));
            }
        }
    }

    static void promise6_fault5_anEntryThatIsNoMultipleOf4(Check check) {
        isFaultOfItem(check, "the length", 4, 2, 13, 14, 15, 17, 18, 19, 21, 1023);
        for (int inode : DIRECTORIES) {
            for (int length : new int[] {13, 14, 15}) {
                isFault(check, "'.' of " + inode + ": " + length, v -> v.poke(entry(v, inode, DOT) + 4, 2, length));
                isFault(check, "'..' of " + inode + ": " + length, v -> v.poke(entry(v, inode, DOTS) + 4, 2, length));
            }
        }
    }

    static void promise6_fault5_anEntryOverTheBlocksEnd(Check check) {
        for (int more : new int[] {4, 8, 12, 1024}) {
            isFault(check, "the last one by " + more, v -> {
                int at = v.entryPlace(v.root, Volumes.EMPTY_FILE);
                v.poke(at + 4, 2, v.peek(at + 4, 2) + more);
            });
            isFault(check, "'..' of deep by " + more, v -> v.poke(entry(v, 13, DOTS) + 4, 2, 1012 + more));
        }
        isFaultOfItem(check, "the length", 4, 2, 1024, 1028, 2048, 32768, 65532);
        isFault(check, "'.' over two blocks", v -> v.poke(entry(v, 11, DOT) + 4, 2, 1028));
        isFault(check, "'.' of two blocks", v -> v.poke(entry(v, 11, DOT) + 4, 2, 2048));
    }

    static void promise6_fault5_entriesThatDoNotFillTheBlock(Check check) {
        for (int less : new int[] {4, 8, 12, 512}) {
            isFault(check, "the last one by " + less + " less, and zeros behind it", v -> {
                int at = v.entryPlace(v.root, Volumes.EMPTY_FILE);
                v.poke(at + 4, 2, v.peek(at + 4, 2) - less);
            });
        }
        Volumes.expect(check, "by 12 less, and an empty entry behind it", 0, v -> {
            int at = v.entryPlace(v.root, Volumes.EMPTY_FILE);
            v.poke(at + 4, 2, v.peek(at + 4, 2) - 12);
            v.poke(1024 * v.root.blocks.get(0) + 1012 + 4, 2, 12);
        });
    }

    static void promise6_fault5_notForAnEntryOfAllTheBlock(Check check) {
        Volumes.expectMade(check, "'.' alone in its block", 0, v -> v.root.dotAlone = true);
        Volumes.expectMade(check, "'..' alone in its block", 0, v -> {
            Volumes.inside(v.root, Volumes.LOST).dotAlone = true;
            Volumes.inside(v.root, Volumes.LOST).leastBlocks = 3;
        });
    }

    static void promise6_fault5_oneEntryInAll(Check check) {
        isFault(check, "the root's '.' up to its block's end", v -> v.poke(entry(v, 2, DOT) + 4, 2, 1024));
        isFault(check, "deep's '.' up to its block's end", v -> v.poke(entry(v, 13, DOT) + 4, 2, 1024));
    }

    static void promise6_fault5_notForTwoEntriesInAll(Check check) {
        Volumes.judge(check, "a root with nothing in it", 0, Volumes.bare().make());
    }

    /** An entry that is empty is still as long as told. */
    static void promise6_fault5_anEmptyEntrysLength(Check check) {
        for (int length : new int[] {0, 4, 8, 11, 13, 14, 15, 1023, 1025, 1028, 2048}) {
            isFault(check, "an empty entry of " + length,
                    v -> v.poke(1024 * Volumes.inside(v.root, Volumes.LOST).blocks.get(1) + 4, 2, length));
        }
    }

    static void promise6_fault5_nothingElseOfAnEmptyEntryCounts(Check check) {
        Volumes.expectMade(check, "names of bytes 0 and 47, and another mark", 0, v -> {
            v.root.gaps = true;
            Volumes.inside(v.root, Volumes.SUB).gaps = true;
        });
        Volumes.expect(check, "12 bytes with a name of 255", 0, v -> {
            int at = 1024 * Volumes.inside(v.root, Volumes.LOST).blocks.get(1);
            v.poke(at + 4, 2, 12);
            v.poke(at + 6, 2, 0x07FF);
            v.poke(at + 12, 8, 1012L << 32);
        });
        Volumes.expect(check, "the names '.' and '..'", 0, v -> {
            int at = 1024 * Volumes.inside(v.root, Volumes.LOST).blocks.get(1);
            v.poke(at + 4, 4, 12 | 1 << 16 | 2 << 24);
            v.poke(at + 8, 4, '.');
            v.poke(at + 12 + 4, 4, 1012 | 2 << 16 | 2 << 24);
            v.poke(at + 12 + 8, 4, '.' | '.' << 8);
        });
    }

    static void promise6_fault5_theFirstTwoAreNeverEmpty(Check check) {
        for (int inode : DIRECTORIES) {
            isFault(check, "'.' of " + inode, v -> v.poke(entry(v, inode, DOT), 4, 0));
            isFault(check, "'..' of " + inode, v -> v.poke(entry(v, inode, DOTS), 4, 0));
        }
    }

    /** An entry of 12 bytes has room for a name of 4. */
    static void promise6_fault5_aNameLongerThanItsEntry(Check check) {
        for (int n : new int[] {4, 5, 6, 8, 9, 255}) {
            Volumes.expect(check, "a name of " + n + " in 12 bytes", n == 4 ? 0 : 5, v -> {
                int at = v.entryPlace(v.root, Volumes.A);
                v.poke(at + 6, 1, n);
                v.poke(at + 8, 4, 0x64636261);
            });
        }
        Volumes.expectMade(check, "a name of 255 in 264 bytes", 0, v -> v.file(v.root, "x".repeat(255), 16, 10));
        VolumeMaker v = Volumes.small();
        v.file(v.root, "x".repeat(252), 16, 10);
        v.file(v.root, "behind", 17, 10);
        v.make();
        int at = v.entryPlace(v.root, 4);
        check.same("a name of 252", v.peek(at + 4, 2), 260);
        Volumes.judge(check, "a name of 252 in 260 bytes", 0, v);
        v.poke(at + 6, 1, 253);
        v.poke(at + 8 + 252, 1, 'x');
        Volumes.judge(check, "a name of 253 in 260 bytes", 5, v);
    }

    static void promise6_fault5_notForAnEntryLongerThanItsName(Check check) {
        Volumes.expect(check, "the rest of the block for a name of 1", 0, v -> {
            int at = v.entryPlace(v.root, Volumes.EMPTY_FILE);
            v.poke(at + 6, 1, 1);
        });
        Volumes.expect(check, "any bytes behind the name", 0, v -> {
            v.poke(v.entryPlace(v.root, Volumes.SUB) + 11, 1, 47);
            v.poke(v.entryPlace(v.root, Volumes.A) + 9, 3, 0);
        });
    }

    static void promise6_fault5_anInodeThatIsNone(Check check) {
        isFaultOfItem(check, "the inode", 0, 4, 33, 34, 65536 + 12, 0x80000002L, 0x8000000CL, 0xFFFFFFFEL, 0xFFFFFFFFL);
    }

    static void promise6_fault5_notForTheLastInode(Check check) {
        Volumes.expectMade(check, "inode Q * G", 0, v -> v.file(v.root, "last", 32, 10));
        Volumes.expectMade(check, "inode 1", 0, v -> v.file(v.root, "first", 1, 10));
    }

    static void promise6_fault5_anEmptyName(Check check) {
        isFaultOfItem(check, "the name's length", 6, 1, 0);
    }

    static void promise6_fault5_aNameWithAByte0(Check check) {
        isFaultOfItem(check, "the first letter", 8, 1, 0);
        isFault(check, "the last letter", v -> v.poke(v.entryPlace(v.root, Volumes.SUB) + 10, 1, 0));
        isFault(check, "a letter in the middle", v -> v.poke(v.entryPlace(v.root, Volumes.LOST) + 12, 1, 0));
    }

    static void promise6_fault5_aNameWithAByte47(Check check) {
        isFaultOfItem(check, "the first letter", 8, 1, 47);
        isFault(check, "the last letter", v -> v.poke(v.entryPlace(v.root, Volumes.SUB) + 10, 1, 47));
        isFault(check, "a letter in the middle", v -> v.poke(v.entryPlace(v.root, Volumes.LOST) + 12, 1, 47));
    }

    static void promise6_fault5_notForAnyOtherLetter(Check check) {
        for (int letter = 1; letter < 256; letter++) {
            int each = letter;
            if (letter != 47 && letter != '.') {
                Volumes.expect(check, "letter " + letter, 0, v -> v.poke(v.entryPlace(v.root, Volumes.A) + 8, 1, each));
            }
        }
    }

    static void promise6_fault5_theFirstEntryIsDot(Check check) {
        isNamed(check, "'.'", DOT);
        for (int inode : DIRECTORIES) {
            isFault(check, "'.x' in " + inode, v -> {
                v.poke(entry(v, inode, DOT) + 6, 1, 2);
                v.poke(entry(v, inode, DOT) + 8, 2, '.' | 'x' << 8);
            });
            isFault(check, "'..' in place of '.' in " + inode, v -> {
                v.poke(entry(v, inode, DOT) + 6, 1, 2);
                v.poke(entry(v, inode, DOT) + 8, 2, '.' | '.' << 8);
            });
        }
    }

    static void promise6_fault5_theSecondEntryIsDotDot(Check check) {
        isNamed(check, "'..'", DOTS);
        for (int inode : DIRECTORIES) {
            isFault(check, "'.' in place of '..' in " + inode, v -> v.poke(entry(v, inode, DOTS) + 6, 1, 1));
            isFault(check, "'.x' in place of '..' in " + inode, v -> v.poke(entry(v, inode, DOTS) + 9, 1, 'x'));
            isFault(check, "'...' in place of '..' in " + inode, v -> {
                v.poke(entry(v, inode, DOTS) + 6, 1, 3);
                v.poke(entry(v, inode, DOTS) + 10, 1, '.');
            });
        }
    }

    private static void isNamed(Check check, String name, int item) {
        for (int inode : DIRECTORIES) {
            for (int letter : new int[] {0, 47, 'x', 45, 255}) {
                isFault(check, name + " of " + inode + " begins with " + letter,
                        v -> v.poke(entry(v, inode, item) + 8, 1, letter));
            }
            for (int n : new int[] {0, 3, 4, 5, 255}) {
                isFault(check, name + " of " + inode + " has " + n + " letters",
                        v -> v.poke(entry(v, inode, item) + 6, 1, n));
            }
        }
    }

    static void promise6_fault5_theFirstEntryIsTheDirectoryItself(Check check) {
        for (int inode : DIRECTORIES) {
            for (long other : new long[] {1, 2, 3, 11, 12, 13, 20, 32, 33, 0xFFFFFFFFL}) {
                if (other != inode) {
                    isFault(check, "'.' of " + inode + " is " + other,
                            v -> v.poke(entry(v, inode, DOT), 4, other));
                }
            }
        }
    }

    static void promise6_fault5_theSecondEntryIsTheParent(Check check) {
        for (int inode : new int[] {11, 13, 20}) {
            int parent = inode == 13 ? 20 : 2;
            for (long other : new long[] {1, 2, 3, 11, 12, 13, 20, 32, 33, 0xFFFFFFFFL}) {
                if (other != parent) {
                    isFault(check, "'..' of " + inode + " is " + other,
                            v -> v.poke(entry(v, inode, DOTS), 4, other));
                }
            }
        }
    }

    static void promise6_fault5_theRootsParentIsTheRoot(Check check) {
        for (long other : new long[] {1, 3, 11, 12, 20, 33, 0xFFFFFFFFL}) {
            isFault(check, "'..' of the root is " + other, v -> v.poke(entry(v, 2, DOTS), 4, other));
        }
    }

    static void promise6_fault5_theFirstTwoHave2At7(Check check) {
        for (int inode : DIRECTORIES) {
            for (int mark : new int[] {0, 1, 3, 130, 255}) {
                isFault(check, "'.' of " + inode + " with " + mark, v -> v.poke(entry(v, inode, DOT) + 7, 1, mark));
                isFault(check, "'..' of " + inode + " with " + mark, v -> v.poke(entry(v, inode, DOTS) + 7, 1, mark));
            }
        }
    }

    static void promise6_fault5_anotherEntryNamedDot(Check check) {
        for (int k = 0; k < 4; k++) {
            int item = k;
            isFault(check, "item " + k, v -> {
                v.poke(v.entryPlace(v.root, item) + 6, 1, 1);
                v.poke(v.entryPlace(v.root, item) + 8, 1, '.');
            });
        }
    }

    static void promise6_fault5_anotherEntryNamedDotDot(Check check) {
        for (int k = 0; k < 4; k++) {
            int item = k;
            isFault(check, "item " + k, v -> {
                v.poke(v.entryPlace(v.root, item) + 6, 1, 2);
                v.poke(v.entryPlace(v.root, item) + 8, 2, '.' | '.' << 8);
            });
        }
    }

    static void promise6_fault5_notForOtherNamesWithDots(Check check) {
        Volumes.expectMade(check, "names with dots", 0, v -> {
            v.file(v.root, "...", 16, 10);
            v.file(v.root, ".a", 17, 10);
            v.file(v.root, "a.", 18, 10);
            v.file(v.root, "..a", 19, 10);
            v.directory(v.root, "....", 21);
        });
    }

    static void promise6_fault5_anItemWhoseInodeIsNotUsed(Check check) {
        for (int k = 0; k < 4; k++) {
            int item = k;
            isFault(check, "item " + k, v -> {
                int inode = Volumes.inside(v.root, item).inode;
                v.bit(v.map[(inode - 1) / 16] + 1, (inode - 1) % 16, false);
            });
        }
        isFaultOfItem(check, "the inode", 0, 4, 16, 32);
    }

    static void promise6_fault5_anItemThatIsNoFileAndNoDirectory(Check check) {
        for (int k = 0; k < 4; k++) {
            int item = k;
            for (int type = 0; type < 16; type++) {
                int bits = 4096 * type;
                if (bits != 16384 && bits != 32768) {
                    isFault(check, "item " + k + " of type " + bits,
                            v -> v.poke(v.inodePlace(Volumes.inside(v.root, item).inode), 2, bits + 0644));
                }
            }
        }
        isFaultOfItem(check, "a reserved inode of zeros", 0, 4, 1, 9);
    }

    static void promise6_fault5_anItemsMarkIsAsItIs(Check check) {
        isFaultOfItem(check, "the mark", 7, 1, 0, 3, 4, 129, 130, 255);
        for (int k = 0; k < 4; k++) {
            int item = k;
            isFault(check, "item " + k + " with the other's mark", v -> {
                int at = v.entryPlace(v.root, item) + 7;
                v.poke(at, 1, 3 - v.peek(at, 1));
            });
            isFault(check, "item " + k + " with the other's type", v -> {
                int at = v.inodePlace(Volumes.inside(v.root, item).inode);
                v.poke(at, 2, v.peek(at, 2) ^ 16384 ^ 32768);
            });
        }
    }

    static void promise6_fault5_inALaterBlock(Check check) {
        VolumeMaker v = Volumes.small();
        Volumes.inside(v.root, Volumes.LOST).leastBlocks = 14;
        v.make();
        Volumes.judge(check, "a directory of 14 blocks", 0, v);
        for (int block : new int[] {1, 11, 12, 13}) {
            int at = 1024 * Volumes.inside(v.root, Volumes.LOST).blocks.get(block) + 4;
            v.poke(at, 2, 1020);
            Volumes.judge(check, "block " + block, 5, v);
            v.poke(at, 2, 1024);
        }
    }
}
