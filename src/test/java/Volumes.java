import java.util.Random;
import java.util.function.Consumer;

/** The volumes that the tests have in common, and the question for the fault of one. */
final class Volumes {
    static final int SUPER = 1024;
    static final int DESCRIPTORS = 2048;
    static final Class<IllegalStateException> STATE = IllegalStateException.class;
    static final Class<IndexOutOfBoundsException> BOUNDS = IndexOutOfBoundsException.class;
    static final Class<IllegalArgumentException> ARGUMENT = IllegalArgumentException.class;
    /** The small volume's items in the root, and in the directory sub. */
    static final int LOST = 0;
    static final int A = 1;
    static final int SUB = 2;
    static final int EMPTY_FILE = 3;
    static final int DEEP = 0;
    static final int LONG_FILE = 1;
    static final int SMALL_END = 128 * 1024;

    private Volumes() {
    }

    /**
     * Two groups of 64 and 63 blocks, 16 inodes in each. The root (2) has lost+found (11, a directory of 2 blocks),
     * a (12, a file of 1500 bytes), sub (20, a directory, of group 1) and none (15, a file of no size);
     * sub has deep (13, a directory with nothing in it) and a file (14) of 14 blocks and an indirect one.
     */
    static VolumeMaker small() {
        return small(128, 64, 16);
    }

    static VolumeMaker small(int blocks, int perGroup, int inodes) {
        VolumeMaker v = new VolumeMaker(blocks, perGroup, inodes);
        VolumeMaker.Node lost = v.directory(v.root, "lost+found", 11);
        lost.leastBlocks = 2;
        VolumeMaker.Node a = v.file(v.root, "a", 12, 1500);
        a.time = 4294967295L;
        VolumeMaker.Node sub = v.directory(v.root, "sub", 20);
        v.directory(sub, "deep", 13);
        v.file(sub, "file with 14 blocks", 14, 13 * 1024 + 1);
        v.file(v.root, "none", 15, 0);
        return v;
    }

    /** One group, 8 inodes, a root with nothing in it. */
    static VolumeMaker bare() {
        return new VolumeMaker(128, 256, 8);
    }

    /** A file of n blocks, whose bytes are 0, is the root's only item: inode 12. */
    static VolumeMaker withFile(int n) {
        VolumeMaker v = new VolumeMaker(512, 256, 16);
        v.file(v.root, "big", 12, 1024 * n - 5).blank = true;
        return v.make();
    }

    /** Every block of the volume is taken: 497 of them by one file, the most that a disk can hold. */
    static VolumeMaker full() {
        VolumeMaker v = new VolumeMaker(512, 256, 8);
        v.any = new Random(3);
        v.file(v.root, "all", 3, 497 * 1024).blank = true;
        return v.make();
    }

    static VolumeMaker.Node inside(VolumeMaker.Node n, int... path) {
        VolumeMaker.Node at = n;
        for (int k : path) {
            at = at.inside.get(k);
        }
        return at;
    }

    static VolumeMaker.Node find(VolumeMaker.Node n, int inode) {
        if (n.inode == inode) {
            return n;
        }
        for (VolumeMaker.Node each : n.inside) {
            VolumeMaker.Node found = find(each, inode);
            if (found != null) {
                return found;
            }
        }
        return null;
    }

    /** The volume's fault, by the class and by the reference, within the calls that an object is used for. */
    static void judge(Check check, String what, int due, VolumeMaker v) {
        InodeVolumes x = v.load();
        check.same(what, x.fault(), due);
        check.same(what + " (asked again)", x.fault(), due);
        check.same(what + " (by the reference)", Reference.fault(v.image), due);
        check.yes(what + " takes " + v.calls() + " calls", v.calls() + 2 <= Renewed.MOST_CALLS);
    }

    /** The small volume, made, changed, and its copies changed with it. */
    static void expect(Check check, String what, int due, Consumer<VolumeMaker> change) {
        VolumeMaker v = small().make();
        InodeVolumes x = v.load();
        byte[] sound = v.image.clone();
        change.accept(v);
        v.mirror();
        judge(check, what, due, v);
        judgeBehind(check, what, due, x, sound, v.image);
    }

    /** The fault in an object that was asked before the change, and behind it: nothing may be left of what it found. */
    static void judgeBehind(Check check, String what, int due, InodeVolumes x, byte[] sound, byte[] changed) {
        check.same(what + " (before it)", x.fault(), 0);
        carry(x, changed, sound);
        check.same(what + " (behind a sound volume)", x.fault(), due);
        carry(x, sound, changed);
        check.same(what + " (mended)", x.fault(), 0);
    }

    /** Puts what differs. */
    static void carry(InodeVolumes x, byte[] now, byte[] before) {
        for (int at = 0; at < now.length; at++) {
            if (now[at] != before[at]) {
                x.put(at, 1, now[at]);
            }
        }
    }

    /** The same, but the change comes ahead of the making. */
    static void expectMade(Check check, String what, int due, Consumer<VolumeMaker> change) {
        VolumeMaker v = small();
        change.accept(v);
        judge(check, what, due, v.make());
    }

    /** Brings a fault into the small volume, so that only it is found; 2 must come behind the copying. */
    static void bring(VolumeMaker v, int fault) {
        switch (fault) {
            case 1:
                v.poke(SUPER + 58, 2, 2);
                break;
            case 2:
                v.poke(1024 * 66 + 1000, 1, 5);
                break;
            case 3:
                v.poke(DESCRIPTORS + 32 + 4, 4, 100);
                break;
            case 4:
                v.poke(v.inodePlace(2) + 96, 4, 100);
                break;
            case 5:
                v.poke(v.entryPlace(v.root, EMPTY_FILE) + 7, 1, 2);
                break;
            case 6:
                v.poke(v.inodePlace(12) + 26, 2, 2);
                break;
            case 7:
                v.bit(v.map[0] + 1, 15, true);
                break;
            default:
                v.poke(DESCRIPTORS + 12, 2, 1);
        }
    }

    /** A new object, and one with each of the faults whose HERE was sub as long as it was sound. */
    static InodeVolumes[] unsound() {
        InodeVolumes[] all = new InodeVolumes[9];
        all[0] = new InodeVolumes(128);
        for (int fault = 1; fault <= 8; fault++) {
            VolumeMaker v = small().make();
            byte[] sound = v.image.clone();
            bring(v, fault);
            if (fault != 2) {
                v.mirror();
            }
            all[fault] = inSub();
            carry(all[fault], v.image, sound);
        }
        return all;
    }

    /** The small volume in an object whose HERE is sub. */
    static InodeVolumes inSub() {
        InodeVolumes x = small().make().load();
        x.enter(SUB);
        return x;
    }

    static boolean isInSub(InodeVolumes x) {
        return x.items() == 2 && x.about(DEEP, 0) == 13;
    }

    static boolean isInRoot(InodeVolumes x) {
        return x.items() == 4 && x.about(SUB, 0) == 20;
    }
}
