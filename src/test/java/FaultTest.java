import java.util.function.Consumer;

/** Promise 6: each clause of the faults 1 to 8 by itself, on a volume that is sound but for that. */
public final class FaultTest {
    private static final Check check = new Check("FaultTest");
    private static final int MOST_CALLS = 512;
    private static final int SUPER = 1024;

    public static void main(String[] args) {
        sound();
        superblock();
        copies();
        groups();
        root();
        wholeness();
        entries();
        order();
        links();
        inodes();
        maps();
        crowd();
        changes();
        check.end();
    }

    /** Two groups; root: lost+found (2 blocks), a (2 blocks), sub (of group 1) with deep and f (14 blocks), none. */
    static VolumeMaker small() {
        return small(128, 64, 16);
    }

    static VolumeMaker small(int blocks, int perGroup, int inodes) {
        VolumeMaker v = new VolumeMaker(blocks, perGroup, inodes);
        VolumeMaker.Node lost = v.directory(v.root, "lost+found", 11);
        lost.leastBlocks = 2;
        VolumeMaker.Node a = v.file(v.root, "a", 12, 1500);
        a.time = 4294967295L;
        VolumeMaker.Node sub = v.directory(v.root, "sub", 20);
        v.directory(sub, "deep", 13);
        v.file(sub, "file with 14 blocks", 14, 13 * 1024 + 1);
        v.file(v.root, "none", 15, 0);
        return v;
    }

    private static VolumeMaker.Node inside(VolumeMaker.Node n, int... path) {
        VolumeMaker.Node at = n;
        for (int k : path) {
            at = at.inside.get(k);
        }
        return at;
    }

    private static void judge(String what, int due, VolumeMaker v) {
        int[] calls = new int[1];
        InodeVolumes x = v.load(calls);
        check.same(what, x.fault(), due);
        check.same(what + " (asked again)", x.fault(), due);
        check.same(what + " (by the reference)", Reference.fault(v.image), due);
        check.yes(what + " takes " + calls[0] + " calls", calls[0] + 2 <= MOST_CALLS);
    }

    /** The small volume, made, changed, and its copies changed with it. */
    private static void expect(String what, int due, Consumer<VolumeMaker> change) {
        VolumeMaker v = small().make();
        change.accept(v);
        v.mirror();
        judge(what, due, v);
    }

    /** The same, but the change comes ahead of the making. */
    private static void expectMade(String what, int due, Consumer<VolumeMaker> change) {
        VolumeMaker v = small();
        change.accept(v);
        judge(what, due, v.make());
    }

    private static void sound() {
        judge("the small volume", 0, small().make());
        int[][] shapes = {{128, 256, 32}, {256, 256, 64}, {257, 256, 64}, {512, 256, 24}, {129, 128, 24},
            {129, 64, 16}, {256, 128, 80}, {512, 64, 8}, {512, 128, 8}, {135, 64, 16}, {512, 256, 1800}, {385, 128, 32}};
        for (int[] s : shapes) {
            judge("sound with " + s[0] + ", " + s[1] + ", " + s[2], 0, small(s[0], s[1], s[2]).make());
        }
        VolumeMaker bare = new VolumeMaker(128, 256, 8).make();
        judge("eight inodes in all", 0, bare);
        expectMade("maps up to the group's end", 0, v -> {
            v.map[0] = 65 - 4;
            v.map[1] = 128 - 4;
        });
        expectMade("gaps, and a lone dot", 0, v -> {
            v.root.gaps = true;
            v.root.dotAlone = true;
        });
        expectMade("a reserved inode that comes up", 0, v -> {
            v.file(v.root, "five", 5, 2000);
            v.directory(v.root, "one", 1);
        });
        expectMade("two items of one name", 0, v -> v.file(v.root, "a", 16, 10));
        expectMade("a name of 255 bytes", 0, v -> v.file(v.root, "x".repeat(254) + (char) 255, 16, 10));
        expectMade("names with dots", 0, v -> {
            v.file(v.root, "...", 16, 10);
            v.file(v.root, ".a", 17, 10);
            v.file(v.root, "a.", 18, 10);
        });
        expect("what the document does not name in the superblock", 0, v -> {
            for (int at : new int[] {8, 28, 44, 48, 52, 60, 64, 68, 72, 80, 92, 100, 104, 1020}) {
                v.poke(SUPER + at, 4, 0x01020304 + at);
            }
        });
        expect("what it does not name in the descriptors", 0, v -> {
            v.poke(2048 + 18, 8, -1);
            v.poke(2048 + 32 + 24, 8, -1);
            v.poke(2048 + 64, 8, -1);
            v.poke(3071, 1, 7);
        });
        expect("what it does not name in an inode", 0, v -> {
            int at = v.inodePlace(12);
            v.poke(at, 2, 32768 + 4095);
            v.poke(at + 2, 2, 77);
            v.poke(at + 8, 8, -1);
            v.poke(at + 16, 8, -1);
            v.poke(at + 24, 2, 3);
            v.poke(at + 32, 8, -1);
            v.poke(at + 100, 8, -1);
            v.poke(at + 120, 8, -1);
        });
        expect("what stands behind the pointers of an indirect block", 0, v -> {
            int indirect = (int) v.peek(v.inodePlace(14) + 88, 4);
            v.poke(1024 * indirect + 8, 8, -1);
            v.poke(1024 * indirect + 1016, 8, -1);
        });
        expect("what stands in block 0 and in free blocks", 0, v -> {
            v.poke(0, 8, -1);
            v.poke(1024 * 127 + 1016, 8, -1);
        });
    }

    private static void superblock() {
        judge("nothing at all", 1, new VolumeMaker(128, 64, 16));
        int[][] fields = {{0, 4}, {4, 4}, {20, 4}, {24, 4}, {32, 4}, {36, 4}, {40, 4}, {56, 2}, {58, 2}, {76, 4},
            {84, 4}, {88, 2}, {90, 2}, {96, 4}};
        for (int[] f : fields) {
            for (int i = 0; i < f[1]; i++) {
                int at = SUPER + f[0] + i;
                expect("superblock's byte " + f[0] + " + " + i, 1, v -> v.poke(at, 1, v.peek(at, 1) ^ 1));
                expect("superblock's byte " + f[0] + " + " + i, 1, v -> v.poke(at, 1, v.peek(at, 1) ^ 128));
            }
        }
        for (int p : new int[] {0, 1, 32, 63, 65, 96, 192, 512, -1, 1 << 31}) {
            expect("groups of " + p, 1, v -> {
                v.poke(SUPER + 32, 4, p);
                v.poke(SUPER + 36, 4, p);
            });
        }
        for (int g : new int[] {0, 4, 7, 9, 12, 8193, 8200, 16384, -8, -1}) {
            expect("inodes in a group: " + g, 1, v -> {
                v.poke(SUPER + 40, 4, g);
                v.poke(SUPER, 4, 2L * g);
            });
        }
        expect("inodes in a group that do not fit, 8192", 3, v -> {
            v.poke(SUPER + 40, 4, 8192);
            v.poke(SUPER, 4, 16384);
        });
        expect("other groups, by right numbers", 3, v -> {
            v.poke(SUPER + 32, 4, 128);
            v.poke(SUPER + 36, 4, 128);
            v.poke(SUPER, 4, 16);
            v.poke(SUPER + 40, 4, 16);
            v.poke(2048, 4, 126);
        });
    }

    private static void copies() {
        for (int[] s : new int[][] {{130, 64}, {258, 256}, {194, 64}, {386, 128}}) {
            VolumeMaker v = new VolumeMaker(s[0], s[1], 8);
            v.describe();
            v.mirror();
            judge("a last group of " + v.count(v.groups - 1), 2, v);
            v = new VolumeMaker(s[0] + 1, s[1], 8);
            v.describe();
            v.mirror();
            judge("a last group of two blocks, with its copies but no room for maps", 3, v);
        }
        int copy = 1024 * 65;
        for (int at : new int[] {0, 1, 87, 88, 89, 90, 91, 92, 95, 96, 500, 1023, 1024, 1025, 1114, 1115, 1500, 2047}) {
            VolumeMaker v = small().make();
            v.poke(copy + at, 1, v.peek(copy + at, 1) ^ 16);
            judge("the copy's byte " + at, 2, v);
        }
        VolumeMaker v = small().make();
        v.poke(copy + 90, 2, 0);
        judge("the copy has group 0's number", 2, v);
        v = small(512, 64, 8).make();
        v.poke(1024 * v.first(7) + 90, 2, 6);
        judge("the last copy has another number", 2, v);
        v = small().make();
        v.poke(SUPER + 1000, 1, 5);
        judge("a byte of the superblock that is not copied", 2, v);
        v = small().make();
        v.poke(3071, 1, 5);
        judge("a byte of the descriptors that is not copied", 2, v);
    }

    private static void setMaps(VolumeMaker v, int g, long m) {
        v.poke(2048 + 32 * g, 4, m);
        v.poke(2052 + 32 * g, 4, m + 1);
        v.poke(2056 + 32 * g, 4, m + 2);
    }

    private static void groups() {
        for (int g = 0; g < 2; g++) {
            int group = g;
            int first = 1 + 64 * g;
            int end = g == 0 ? 65 : 128;
            for (long m : new long[] {0, 1, first - 1, first, first + 1, end - 3, end - 1, end, 65 - 2, 200,
                0x7FFFFFFF, 0xFFFFFFFFL, 0xFFFFFFFEL, 0x80000000L}) {
                expect("group " + g + " with its maps at " + m, 3, v -> setMaps(v, group, m));
            }
            expect("group " + g + "'s inode map elsewhere", 3, v -> v.poke(2052 + 32 * group, 4, first + 30));
            expect("group " + g + "'s inodes elsewhere", 3, v -> v.poke(2056 + 32 * group, 4, first + 30));
            expect("group " + g + "'s maps the other way round", 3, v -> {
                v.poke(2048 + 32 * group, 4, first + 3);
                v.poke(2052 + 32 * group, 4, first + 2);
            });
        }
        expect("the second group's maps in the first", 3, v -> setMaps(v, 1, 30));
        expect("maps moved to zeros, just inside", 4, v -> setMaps(v, 0, 65 - 4));
    }

    private static void root() {
        expect("the root is not used", 4, v -> v.bit(v.map[0] + 1, 1, false));
        expect("the root is a file", 4, v -> v.poke(v.inodePlace(2), 2, 32768 + 0755));
        expect("the root is nothing", 4, v -> v.poke(v.inodePlace(2), 2, 0755));
        expect("the root is both", 4, v -> v.poke(v.inodePlace(2), 2, 16384 + 32768));
        expect("the root has another high bit", 4, v -> v.poke(v.inodePlace(2), 2, 16384 + 4096));
        expect("the root's lowest 12 bits", 0, v -> v.poke(v.inodePlace(2), 2, 16384 + 4095));
        expect("the root's size is too much", 4, v -> v.poke(v.inodePlace(2) + 4, 4, 1024 * 128 + 1));
        expect("the root's blocks", 4, v -> v.poke(v.inodePlace(2) + 28, 4, 4));
        expect("the root is whole, but of no size", 5, v -> {
            v.poke(v.inodePlace(2) + 4, 4, 0);
            v.poke(v.inodePlace(2) + 28, 4, 0);
            v.poke(v.inodePlace(2) + 40, 4, 0);
        });
    }

    /** What makes the inode of an item not whole: 4, by the entries of its directory. */
    private static void wholeness() {
        for (int inode : new int[] {2, 11, 12, 13, 14, 15, 20}) {
            String who = "inode " + inode + ": ";
            expect(who + "a size of all the disk", 4, v -> v.poke(v.inodePlace(inode) + 4, 4, 1024 * 128));
            expect(who + "a size of more than the disk", 4, v -> v.poke(v.inodePlace(inode) + 4, 4, 1024 * 128 + 1));
            expect(who + "the size's highest bit", 4,
                    v -> v.poke(v.inodePlace(inode) + 7, 1, v.peek(v.inodePlace(inode) + 7, 1) | 128));
            for (int i = 0; i < 4; i++) {
                int at = 28 + i;
                expect(who + "byte " + at, 4,
                        v -> v.poke(v.inodePlace(inode) + at, 1, v.peek(v.inodePlace(inode) + at, 1) ^ 2));
            }
            expect(who + "an odd number of half blocks", 4,
                    v -> v.poke(v.inodePlace(inode) + 28, 1, v.peek(v.inodePlace(inode) + 28, 1) + 1));
            expect(who + "the 15th pointer", 4, v -> v.poke(v.inodePlace(inode) + 96, 4, 120));
            expect(who + "the 15th pointer's highest byte", 4, v -> v.poke(v.inodePlace(inode) + 99, 1, 1));
            expect(who + "the 14th pointer", 4, v -> v.poke(v.inodePlace(inode) + 92, 4, 120));
            if (inode != 14) {
                expect(who + "the 13th pointer", 4, v -> v.poke(v.inodePlace(inode) + 88, 4, 120));
                expect(who + "the 12th pointer", 4, v -> v.poke(v.inodePlace(inode) + 84, 4, 120));
                expect(who + "the third pointer", 4, v -> v.poke(v.inodePlace(inode) + 48, 4, 120));
            }
            if (inode != 15) {
                for (long b : new long[] {0, 128, 129, 0xFFFFFFFFL, 0x80000000L, 1, 2, 3, 4, 5, 6, 65, 66, 67, 70}) {
                    expect(who + "its first block is " + b, 4, v -> v.poke(v.inodePlace(inode) + 40, 4, b));
                }
                expect(who + "the root's block, or its own for another's", 4, v -> v.poke(v.inodePlace(inode) + 40, 4,
                        inode == 2 ? 0 : v.root.blocks.get(0)));
            }
        }
        expect("a block twice in one inode", 4,
                v -> v.poke(v.inodePlace(12) + 44, 4, v.peek(v.inodePlace(12) + 40, 4)));
        expect("two inodes with one block", 4,
                v -> v.poke(v.inodePlace(20) + 40, 4, v.peek(v.inodePlace(12) + 44, 4)));
        expect("its last block for a new one", 8, v -> v.poke(v.inodePlace(12) + 44, 4, 127));
        indirect();
        doubly();
    }

    private static void indirect() {
        for (long b : new long[] {0, 1, 66, 128, 0xFFFFFFFFL}) {
            expect("the indirect block is " + b, 4, v -> v.poke(v.inodePlace(14) + 88, 4, b));
            for (int i : new int[] {0, 1}) {
                expect("pointer " + i + " of the indirect block is " + b, 4,
                        v -> v.poke(1024 * (int) v.peek(v.inodePlace(14) + 88, 4) + 4 * i, 4, b));
            }
        }
        expect("the indirect block is the first one too", 4,
                v -> v.poke(v.inodePlace(14) + 40, 4, v.peek(v.inodePlace(14) + 88, 4)));
        expect("the indirect block points to itself", 4, v -> {
            long b = v.peek(v.inodePlace(14) + 88, 4);
            v.poke((int) (1024 * b), 4, b);
        });
        expect("a pointer that is not needed is not looked at", 0,
                v -> v.poke(1024 * (int) v.peek(v.inodePlace(14) + 88, 4) + 8, 4, 1));
        for (int size : new int[] {1, 1024, 1025, 11 * 1024 + 1, 12 * 1024, 12 * 1024 + 1, 13 * 1024, 13 * 1024 + 1}) {
            VolumeMaker v = new VolumeMaker(128, 64, 16);
            v.file(v.root, "f", 12, size);
            judge("a file of " + size, 0, v.make());
            v.poke(v.inodePlace(12) + (size > 12 * 1024 ? 92 : 88), 4, 120);
            judge("a file of " + size + " with a pointer that is not wanted", 4, v);
        }
        expectMade("a directory with an indirect block", 0, v -> inside(v.root, 0).leastBlocks = 14);
        VolumeMaker v = small();
        inside(v.root, 0).leastBlocks = 14;
        v.make();
        int last = 1024 * inside(v.root, 0).blocks.get(13);
        v.poke(last + 4, 2, 1020);
        judge("a fault in a block that an indirect one points to", 5, v);
    }

    private static VolumeMaker big(int n) {
        VolumeMaker v = new VolumeMaker(512, 256, 16);
        v.file(v.root, "big", 12, 1024 * n - 5).blank = true;
        return v.make();
    }

    private static void doubly() {
        for (int n : new int[] {267, 268, 269, 270, 480}) {
            judge("a file of " + n + " blocks", 0, big(n));
        }
        VolumeMaker v = big(268);
        v.poke(v.inodePlace(12) + 92, 4, 500);
        judge("a doubly indirect block that is not wanted", 4, v);
        for (long b : new long[] {0, 1, 258, 512, 0xFFFFFFFFL}) {
            v = big(270);
            v.poke(v.inodePlace(12) + 92, 4, b);
            judge("the doubly indirect block is " + b, 4, v);
            v = big(270);
            int outer = (int) v.peek(v.inodePlace(12) + 92, 4);
            v.poke(1024 * outer, 4, b);
            judge("its first indirect block is " + b, 4, v);
            v = big(270);
            int inner = (int) v.peek(1024 * (int) v.peek(v.inodePlace(12) + 92, 4), 4);
            v.poke(1024 * inner + 4, 4, b);
            judge("its last block is " + b, 4, v);
        }
        v = big(270);
        int outer = (int) v.peek(v.inodePlace(12) + 92, 4);
        v.poke(1024 * outer + 4, 4, 1);
        v.poke(1024 * (int) v.peek(1024 * outer, 4) + 8, 4, 1);
        judge("pointers behind the needed ones", 0, v);
        v = big(270);
        v.poke(v.inodePlace(12) + 28, 4, 2 * 272);
        judge("the inner indirect block is not counted", 4, v);
    }

    private static void entries() {
        int[] dirs = {2, 11, 13, 20};
        for (int inode : dirs) {
            String who = "directory " + inode + ": ";
            expect(who + "its size is no multiple of 1024", 5, v -> v.poke(v.inodePlace(inode) + 4, 4,
                    v.peek(v.inodePlace(inode) + 4, 4) - 1));
            dots(who, -2, inode);
            dots(who, -1, inode);
        }
        expect("a directory of no size", 5, v -> {
            v.poke(v.inodePlace(13) + 4, 4, 0);
            v.poke(v.inodePlace(13) + 28, 4, 0);
            v.poke(v.inodePlace(13) + 40, 4, 0);
        });
        expect("one entry in all", 5, v -> v.poke(1024 * v.root.blocks.get(0) + 4, 2, 1024));
        expect("two entries in all", 7, v -> {
            v.poke(v.entryPlace(v.root, -1) + 4, 2, 1012);
            v.poke(v.inodePlace(2) + 26, 2, 2);
        });
        items();
        empties();
    }

    private static VolumeMaker.Node find(VolumeMaker.Node n, int inode) {
        if (n.inode == inode) {
            return n;
        }
        for (VolumeMaker.Node each : n.inside) {
            VolumeMaker.Node found = find(each, inode);
            if (found != null) {
                return found;
            }
        }
        return null;
    }

    private static void dots(String who, int which, int inode) {
        String name = who + (which == -2 ? "." : "..");
        for (long i : new long[] {0, 1, 3, 12, 33, 0xFFFFFFFFL, inode == 2 ? 20 : which == -2 ? 2 : inode}) {
            expect(name + " is " + i, 5, v -> v.poke(v.entryPlace(find(v.root, inode), which), 4, i));
        }
        for (int mark : new int[] {0, 1, 3, 255}) {
            expect(name + " is marked " + mark, 5, v -> v.poke(v.entryPlace(find(v.root, inode), which) + 7, 1, mark));
        }
        expect(name + " has another letter", 5, v -> v.poke(v.entryPlace(find(v.root, inode), which) + 8, 1, 'x'));
        if (which == -1) {
            expect(name + " has another second letter", 5,
                    v -> v.poke(v.entryPlace(find(v.root, inode), which) + 9, 1, 'x'));
        }
        for (int n : new int[] {0, which == -2 ? 2 : 1, 3, 4, 5, 255}) {
            expect(name + " has " + n + " letters", 5,
                    v -> v.poke(v.entryPlace(find(v.root, inode), which) + 6, 1, n));
        }
        for (int n : new int[] {0, 4, 8, 10, 11, 13, 14, 15, 1028, 65532}) {
            expect(name + " is " + n + " long", 5, v -> v.poke(v.entryPlace(find(v.root, inode), which) + 4, 2, n));
        }
    }

    /** The root's items: lost+found 11, a 12, sub 20, none 15. */
    private static void items() {
        for (int k = 0; k < 4; k++) {
            int item = k;
            String who = "item " + k + ": ";
            for (long i : new long[] {33, 34, 0xFFFFFFFFL, 0x80000002L, 16, 32, 1, 9}) {
                expect(who + "its inode is " + i, 5, v -> v.poke(v.entryPlace(v.root, item), 4, i));
            }
            for (int mark : new int[] {0, 3, 4, 255, k % 2 == 0 ? 1 : 2}) {
                expect(who + "marked " + mark, 5, v -> v.poke(v.entryPlace(v.root, item) + 7, 1, mark));
            }
            expect(who + "no letters", 5, v -> v.poke(v.entryPlace(v.root, item) + 6, 1, 0));
            expect(who + "a byte 0", 5, v -> v.poke(v.entryPlace(v.root, item) + 8, 1, 0));
            expect(who + "a byte 47", 5, v -> v.poke(v.entryPlace(v.root, item) + 8, 1, 47));
            expect(who + "the name .", 5, v -> v.poke(v.entryPlace(v.root, item) + 6, 3, 1 | v.peek(
                    v.entryPlace(v.root, item) + 7, 1) << 8 | '.' << 16));
            expect(who + "the name ..", 5, v -> {
                v.poke(v.entryPlace(v.root, item) + 6, 1, 2);
                v.poke(v.entryPlace(v.root, item) + 8, 2, '.' << 8 | '.');
            });
            expect(who + "not used", 5, v -> {
                int inode = inside(v.root, item).inode;
                v.bit(v.map[(inode - 1) / 16] + 1, (inode - 1) % 16, false);
            });
            for (int type : new int[] {0, 4096, 8192, 24576, 40960, 49152, 61440}) {
                expect(who + "of type " + type, 5,
                        v -> v.poke(v.inodePlace(inside(v.root, item).inode), 2, type + 0644));
            }
            for (int n : new int[] {0, 4, 8, 13, 14, 15, 1024}) {
                expect(who + n + " long", 5, v -> v.poke(v.entryPlace(v.root, item) + 4, 2, n));
            }
        }
        expect("a name longer than its entry", 5, v -> {
            v.poke(v.entryPlace(v.root, 1) + 6, 1, 5);
            v.poke(v.entryPlace(v.root, 1) + 8, 4, 0x64636261);
        });
        expect("a name as long as its entry", 0, v -> {
            v.poke(v.entryPlace(v.root, 1) + 6, 1, 4);
            v.poke(v.entryPlace(v.root, 1) + 8, 4, 0x64636261);
        });
        expect("a letter at the name's end is 47", 5, v -> v.poke(v.entryPlace(v.root, 2) + 10, 1, 47));
        expect("a letter at the name's end is 0", 5, v -> v.poke(v.entryPlace(v.root, 2) + 10, 1, 0));
        expect("behind the name's end anything is free", 0, v -> v.poke(v.entryPlace(v.root, 2) + 11, 1, 47));
        expect("the last entry ends before the block", 5, v -> {
            int at = v.entryPlace(v.root, 3);
            v.poke(at + 4, 2, v.peek(at + 4, 2) - 4);
        });
        expect("the last entry ends behind the block", 5, v -> {
            int at = v.entryPlace(v.root, 3);
            v.poke(at + 4, 2, v.peek(at + 4, 2) + 4);
        });
    }

    private static void empties() {
        expectMade("empty entries whose other bytes are anything", 0, v -> {
            v.root.gaps = true;
            inside(v.root, 2).gaps = true;
        });
        for (int n : new int[] {0, 8, 11, 14, 1028}) {
            VolumeMaker v = small();
            v.make();
            VolumeMaker.Node lost = inside(v.root, 0);
            v.poke(1024 * lost.blocks.get(1) + 4, 2, n);
            judge("an empty entry that is " + n + " long", 5, v);
        }
        VolumeMaker v = small().make();
        int at = 1024 * inside(v.root, 0).blocks.get(1);
        v.poke(at + 4, 2, 12);
        v.poke(at + 6, 2, 0x07FF);
        v.poke(at + 12, 8, 1012L << 32);
        judge("short empty entries with long names", 0, v);
        expect("an item that becomes empty", 7, w -> w.poke(w.entryPlace(w.root, 3), 4, 0));
    }

    /** Which of 4 and 5 comes first: the directories as they came, each one's entries ahead of its items. */
    private static void order() {
        expect("an item again", 4, v -> v.poke(v.entryPlace(v.root, 1), 4, 15));
        expect("the root as an item", 4, v -> v.poke(v.entryPlace(v.root, 0), 4, 2));
        expect("its parent as an item", 4, v -> v.poke(v.entryPlace(inside(v.root, 2), 0), 4, 20));
        expect("an item of elsewhere", 4, v -> v.poke(v.entryPlace(inside(v.root, 2), 1), 4, 12));
        expect("entries of a directory ahead of its items' wholeness", 5, v -> {
            v.poke(v.inodePlace(12) + 96, 4, 1);
            v.poke(v.entryPlace(v.root, 3) + 7, 1, 2);
        });
        expect("items' wholeness ahead of the entries of the directories among them", 4, v -> {
            v.poke(v.inodePlace(15) + 96, 4, 1);
            v.poke(v.entryPlace(inside(v.root, 0), -2) + 7, 1, 1);
        });
        expect("an earlier directory's entries ahead of a later one's items", 5, v -> {
            v.poke(v.entryPlace(inside(v.root, 0), -1) + 7, 1, 1);
            v.poke(v.inodePlace(14) + 96, 4, 1);
        });
        expect("an earlier directory's items ahead of a later one's entries", 4, v -> {
            v.poke(v.inodePlace(14) + 96, 4, 1);
            v.poke(v.entryPlace(inside(v.root, 2, 0), -1) + 7, 1, 1);
        });
        VolumeMaker v = new VolumeMaker(128, 64, 16);
        VolumeMaker.Node first = v.directory(v.root, "first", 12);
        VolumeMaker.Node inFirst = v.directory(first, "in first", 13);
        VolumeMaker.Node second = v.directory(v.root, "second", 14);
        v.file(second, "file", 15, 1);
        v.make();
        v.poke(v.entryPlace(inFirst, -2) + 7, 1, 1);
        v.poke(v.inodePlace(15) + 96, 4, 1);
        judge("the root's second directory ahead of one in its first", 4, v);
        VolumeMaker many = new VolumeMaker(512, 256, 1600);
        for (int i = 0; i < 20; i++) {
            many.directory(many.root, "d" + i, 12 + i);
        }
        many.make();
        judge("many directories", 0, many);
        for (int i = 0; i < 20; i++) {
            many.poke(many.inodePlace(12 + i) + 4, 4, 0);
            many.poke(many.inodePlace(12 + i) + 28, 4, 0);
            many.poke(many.inodePlace(12 + i) + 40, 4, 0);
        }
        judge("many directories of no size", 5, many);
    }

    private static void links() {
        int[][] due = {{2, 4}, {11, 2}, {12, 1}, {13, 2}, {14, 1}, {15, 1}, {20, 3}};
        for (int[] d : due) {
            VolumeMaker made = small().make();
            check.same("links of " + d[0], made.peek(made.inodePlace(d[0]) + 26, 2), d[1]);
            for (int n : new int[] {0, d[1] - 1, d[1] + 1, d[1] + 256, 65535}) {
                expect("inode " + d[0] + " with " + n + " links", 6, v -> v.poke(v.inodePlace(d[0]) + 26, 2, n));
            }
        }
        expect("links ahead of what is used", 6, v -> {
            v.poke(v.inodePlace(12) + 26, 2, 2);
            v.bit(v.map[0] + 1, 15, true);
        });
        expect("entries ahead of links", 5, v -> {
            v.poke(v.inodePlace(2) + 26, 2, 2);
            v.poke(v.entryPlace(inside(v.root, 2, 0), -2) + 7, 1, 1);
        });
    }

    private static void inodes() {
        for (int i = 1; i <= 32; i++) {
            int inode = i;
            boolean known = i == 2 || i >= 11 && i <= 15 || i == 20;
            if (known) {
                continue;
            }
            boolean used = i <= 11;
            expect("inode " + i + " used or not", 7,
                    v -> v.bit(v.map[(inode - 1) / 16] + 1, (inode - 1) % 16, !used));
            for (int at : new int[] {0, 1, 7, 8, 63, 127}) {
                expect("a byte of inode " + i, 7, v -> v.poke(v.inodePlace(inode) + at, 1, 64));
            }
        }
        expect("eleven that did not come up and is zero", 0, v -> rid(v, true));
        expect("eleven that did not come up and is not zero", 7, v -> rid(v, false));
        expect("eleven that is not used", 7, v -> {
            rid(v, true);
            v.bit(v.map[0] + 1, 10, false);
        });
        expect("twelve, used and no more", 7, v -> v.bit(v.map[0] + 1, 15, true));
        expect("what is used ahead of the maps", 7, v -> {
            v.bit(v.map[0] + 1, 15, true);
            v.bit(v.map[0], 0, false);
        });
        VolumeMaker v = new VolumeMaker(128, 256, 8).make();
        v.bit(v.map[0] + 1, 7, false);
        judge("the last of eight inodes is not used", 7, v);
        v = small(512, 64, 8).make();
        v.bit(v.map[1] + 1, 2, false);
        judge("inode 11, of the second group, not used", 5, v);
        v = small(512, 64, 8).make();
        v.bit(v.map[1] + 1, 1, false);
        judge("inode 10, of the second group, not used", 7, v);
        v = small(512, 64, 8).make();
        v.bit(v.map[7] + 1, 7, true);
        judge("the last inode used", 7, v);
        v = small(512, 64, 8).make();
        v.poke(v.inodePlace(64) + 127, 1, 1);
        judge("the last inode's last byte", 7, v);
    }

    /** Takes lost+found out of the small volume, and its blocks out of the map. */
    private static void rid(VolumeMaker v, boolean blank) {
        VolumeMaker.Node lost = v.root.inside.get(0);
        v.poke(v.entryPlace(v.root, 0), 4, 0);
        v.root.inside.remove(0);
        v.poke(v.inodePlace(2) + 26, 2, 3);
        for (int b : lost.blocks) {
            v.taken[b] = false;
        }
        for (int i = 0; blank && i < 128; i++) {
            v.poke(v.inodePlace(11) + i, 1, 0);
        }
        v.count();
    }

    private static void maps() {
        VolumeMaker made = small().make();
        for (int g = 0; g < 2; g++) {
            int group = g;
            for (int k : new int[] {0, 1, 2, 3, 4, 5, 6, 7, 8, 20, 40, 61, 62, 63, 64, 65, 71, 72, 127, 128, 1000, 8191}) {
                boolean one = k >= made.count(g) || made.taken[made.first(g) + k];
                expect("bit " + k + " of block map " + g, 8, v -> v.bit(v.map[group], k, !one));
            }
            for (int k : new int[] {16, 17, 23, 24, 63, 64, 65, 127, 128, 4000, 8191}) {
                expect("bit " + k + " of inode map " + g, 8, v -> v.bit(v.map[group] + 1, k, false));
            }
            for (int at : new int[] {12, 13, 14, 15, 16, 17}) {
                int place = 2048 + 32 * g + at;
                expect("descriptor " + g + " at " + at, 8, v -> v.poke(place, 1, v.peek(place, 1) ^ 1));
            }
        }
        for (int at = 12; at < 20; at++) {
            int place = SUPER + at;
            expect("superblock at " + at, 8, v -> v.poke(place, 1, v.peek(place, 1) ^ 4));
        }
        expect("free blocks of two groups, exchanged", 8, v -> {
            v.poke(2048 + 12, 2, v.peek(2048 + 12, 2) + 1);
            v.poke(2080 + 12, 2, v.peek(2080 + 12, 2) - 1);
        });
        expect("directories of two groups, exchanged", 8, v -> {
            v.poke(2048 + 16, 2, v.peek(2048 + 16, 2) + 1);
            v.poke(2080 + 16, 2, v.peek(2080 + 16, 2) - 1);
        });
        expect("a free block that is told to be used everywhere", 8, v -> {
            v.taken[127] = true;
            v.count();
        });
        expect("a used block that is told to be free everywhere", 8, v -> {
            v.taken[inside(v.root, 1).blocks.get(1)] = false;
            v.count();
        });
    }

    /** Far more items than blocks, since files and directories of no size have none. */
    private static void crowd() {
        VolumeMaker v = new VolumeMaker(512, 256, 1600);
        for (int i = 12; i <= 3200; i++) {
            v.file(v.root, "" + i, i, 0);
        }
        v.make();
        InodeVolumes x = v.load();
        check.same("all inodes are files", x.fault(), 0);
        check.same("all inodes are items", x.items(), 3189);
        check.same("the last one", x.about(3188, 0), 3200);
        for (int k = 0; k < 3189; k++) {
            x.put(v.inodePlace(12 + k), 2, 16384);
            x.put(v.entryPlace(v.root, k) + 7, 1, 2);
        }
        check.same("all inodes are directories of no size", x.fault(), 5);
    }

    /** The fault is looked for anew behind each change, and only by what stands there then. */
    private static void changes() {
        VolumeMaker v = small().make();
        InodeVolumes x = v.load();
        int time = v.inodePlace(12) + 26;
        for (int round = 0; round < 20; round++) {
            check.same("sound again", x.fault(), 0);
            check.same("a put", x.put(time, 2, 2), true);
            check.same("behind the put", x.fault(), 6);
            check.same("a refused put", x.put(time, 9, 1), false);
            check.same("behind the refused put", x.fault(), 6);
            check.same("put back", x.fill(time, 1, 1), true);
            check.same("sound behind the fill", x.fault(), 0);
            check.same("a copy", x.copy(1024, 2048, 1024), true);
            check.same("behind the copy", x.fault(), 2);
            check.same("copied back", x.copy(1024 * 66, 2048, 1024), true);
        }
    }
}
