/** What the tests of single bytes have in common: a disk full of one byte, and a look at some of them. */
final class Bytes {
    static final int END = 128 * 1024;
    /** What a disk of these tests is full of: no byte that they put there. */
    static final int GROUND = 0xAA;
    /** Places off a disk of 128 blocks. */
    static final int[] OFF = {-1, -2, -8, -1024, Integer.MIN_VALUE, Integer.MIN_VALUE + 1, END, END + 1, END + 8,
        512 * 1024, Integer.MAX_VALUE - 8, Integer.MAX_VALUE - 1, Integer.MAX_VALUE};

    private Bytes() {
    }

    static InodeVolumes ground() {
        InodeVolumes x = new InodeVolumes(128);
        x.fill(0, END, GROUND);
        return x;
    }

    static void are(Check check, String what, InodeVolumes x, int at, int... due) {
        for (int i = 0; i < due.length; i++) {
            check.same(what + ": byte " + (at + i), x.byteAt(at + i), due[i]);
        }
    }

    static void areAll(Check check, String what, InodeVolumes x, int from, int to, int due) {
        for (int at = from; at < to; at++) {
            check.same(what + ": byte " + at, x.byteAt(at), due);
        }
    }

    /** The disk's first and last bytes, where a refused call would have written, are still the ground. */
    static void areGround(Check check, String what, InodeVolumes x) {
        areAll(check, what, x, 0, 32, GROUND);
        areAll(check, what, x, END - 32, END, GROUND);
    }
}
