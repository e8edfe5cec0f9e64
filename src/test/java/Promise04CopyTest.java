/** Promise 4: copy. */
public final class Promise04CopyTest {
    public static void main(String[] args) {
        Cases.run(Promise04CopyTest.class);
    }

    /** A disk whose first bytes are 1, 2, 3 .. 64, and the ground behind them. */
    private static InodeVolumes counted() {
        InodeVolumes x = Bytes.ground();
        for (int at = 0; at < 64; at++) {
            x.put(at, 1, at + 1);
        }
        return x;
    }

    private static int before(int at) {
        return at < 64 ? at + 1 : Bytes.GROUND;
    }

    private static void isCopied(Check check, int from, int to, int n) {
        InodeVolumes x = counted();
        String what = "copy of " + n + " from " + from + " to " + to;
        check.same(what, x.copy(from, to, n), true);
        for (int at = 0; at < 96; at++) {
            boolean in = at >= to && at < to + n;
            check.same(what + ": byte " + at, x.byteAt(at), in ? before(from + at - to) : before(at));
        }
    }

    static void promise4_bytesApartFromOneAnother(Check check) {
        for (int n = 1; n <= 20; n++) {
            for (int from = 8; from < 16; from++) {
                isCopied(check, from, 40 + from % 5, n);
                isCopied(check, 40 + from % 5, from, n);
            }
        }
    }

    /** What the copy reads is written over by it, further on. */
    static void promise4_upwardsOntoItselfAsTheyWereBefore(Check check) {
        for (int by = 1; by <= 17; by++) {
            for (int n = 1; n <= 40; n += 3) {
                isCopied(check, 5, 5 + by, n);
            }
        }
    }

    static void promise4_downwardsOntoItselfAsTheyWereBefore(Check check) {
        for (int by = 1; by <= 17; by++) {
            for (int n = 1; n <= 40; n += 3) {
                isCopied(check, 5 + by, 5, n);
            }
        }
    }

    static void promise4_toTheirOwnPlaceChangesNothing(Check check) {
        for (int n = 1; n <= 40; n++) {
            isCopied(check, 7, 7, n);
        }
    }

    static void promise4_ofNoBytesAnywhereIsTrueAndChangesNothing(Check check) {
        int[] on = {0, 5, 8, Bytes.END - 1};
        InodeVolumes x = counted();
        for (int from : on) {
            for (int to : on) {
                check.same("copy of none from " + from + " to " + to, x.copy(from, to, 0), true);
            }
        }
        for (int off : Bytes.OFF) {
            check.same("copy of none from " + off, x.copy(off, 0, 0), true);
            check.same("copy of none to " + off, x.copy(0, off, 0), true);
            check.same("copy of none from and to " + off, x.copy(off, off, 0), true);
        }
        for (int at = 0; at < 96; at++) {
            check.same("byte " + at, x.byteAt(at), before(at));
        }
        Bytes.areAll(check, "copies of none", x, Bytes.END - 16, Bytes.END, Bytes.GROUND);
    }

    /** The disk's halves are unlike, so that a copy that was done would be seen. */
    private static void isRefused(Check check, int from, int to, int n) {
        InodeVolumes x = Bytes.ground();
        x.fill(Bytes.END / 2, Bytes.END / 2, 3);
        String what = "copy of " + n + " from " + from + " to " + to;
        check.same(what, x.copy(from, to, n), false);
        Bytes.areAll(check, what, x, 0, 16, Bytes.GROUND);
        Bytes.areAll(check, what, x, Bytes.END / 2 - 16, Bytes.END / 2, Bytes.GROUND);
        Bytes.areAll(check, what, x, Bytes.END / 2, Bytes.END / 2 + 16, 3);
        Bytes.areAll(check, what, x, Bytes.END - 16, Bytes.END, 3);
    }

    static void promise4_ofFewerThanNoBytesIsRefused(Check check) {
        for (int n : new int[] {-1, -2, -8, Integer.MIN_VALUE, Integer.MIN_VALUE + 1}) {
            isRefused(check, 0, Bytes.END - 16, n);
            isRefused(check, Bytes.END - 16, 0, n);
            isRefused(check, 8, 8, n);
            for (int off : Bytes.OFF) {
                isRefused(check, off, 0, n);
                isRefused(check, 0, off, n);
                isRefused(check, off, off, n);
            }
        }
    }

    static void promise4_fromOffTheDiskIsRefused(Check check) {
        for (int off : Bytes.OFF) {
            for (int n : new int[] {1, 8, 1024, Integer.MAX_VALUE}) {
                isRefused(check, off, 0, n);
            }
        }
    }

    static void promise4_toOffTheDiskIsRefused(Check check) {
        for (int off : Bytes.OFF) {
            for (int n : new int[] {1, 8, 1024, Integer.MAX_VALUE}) {
                isRefused(check, Bytes.END / 2, off, n);
            }
        }
    }

    static void promise4_fromAndToOffTheDiskIsRefused(Check check) {
        for (int off : Bytes.OFF) {
            isRefused(check, off, off, 1);
        }
    }

    static void promise4_fromTheDisksLastBytes(Check check) {
        for (int n = 1; n <= 20; n++) {
            InodeVolumes x = Bytes.ground();
            x.fill(Bytes.END - n, n, 3);
            check.same("copy of the last " + n, x.copy(Bytes.END - n, 1, n), true);
            Bytes.areAll(check, "copy of the last " + n, x, 1, n + 1, 3);
            Bytes.are(check, "copy of the last " + n, x, n + 1, Bytes.GROUND);
            isRefused(check, Bytes.END - n + 1, 0, n);
        }
    }

    static void promise4_toTheDisksLastBytes(Check check) {
        for (int n = 1; n <= 20; n++) {
            InodeVolumes x = Bytes.ground();
            x.fill(0, 20, 3);
            check.same("copy to the last " + n, x.copy(0, Bytes.END - n, n), true);
            Bytes.areAll(check, "copy to the last " + n, x, Bytes.END - n, Bytes.END, 3);
            Bytes.are(check, "copy to the last " + n, x, Bytes.END - n - 1, Bytes.GROUND);
            isRefused(check, 0, Bytes.END - n + 1, n);
        }
    }

    static void promise4_overTheDisksBeginningIsRefused(Check check) {
        for (int n = 1; n <= 20; n++) {
            isRefused(check, -1, Bytes.END / 2, n);
            isRefused(check, Bytes.END / 2, -1, n);
            isRefused(check, Bytes.END / 2, -n, n);
        }
    }

    static void promise4_ofAllTheDisk(Check check) {
        InodeVolumes x = counted();
        check.same("copy of all", x.copy(0, 0, Bytes.END), true);
        check.same("byte 63", x.byteAt(63), 64);
        check.same("byte 64", x.byteAt(64), Bytes.GROUND);
        check.same("copy of all but one upwards", x.copy(0, 1, Bytes.END - 1), true);
        Bytes.are(check, "upwards", x, 0, 1, 1, 2, 3);
        check.same("byte 64", x.byteAt(64), 64);
        check.same("copy of all but one downwards", x.copy(1, 0, Bytes.END - 1), true);
        Bytes.are(check, "downwards", x, 0, 1, 2, 3, 4);
    }

    static void promise4_ofMoreThanTheDiskIsRefused(Check check) {
        for (int n : new int[] {Bytes.END + 1, 2 * Bytes.END, Integer.MAX_VALUE - 1, Integer.MAX_VALUE}) {
            isRefused(check, 0, 0, n);
            isRefused(check, 1, 0, n);
            isRefused(check, 0, 1, n);
        }
        isRefused(check, 0, 1, Bytes.END);
        isRefused(check, 1, 0, Bytes.END);
    }

    static void promise4_makesTheRootHereAgain(Check check) {
        int[][] done = {{0, 1, 1}, {0, 0, 1024}, {0, 1, 0}, {-1, 0, 0}, {0, Volumes.SMALL_END + 1, 0}};
        for (int[] d : done) {
            InodeVolumes x = Volumes.inSub();
            String what = "copy of " + d[2] + " from " + d[0] + " to " + d[1];
            check.same(what, x.copy(d[0], d[1], d[2]), true);
            check.yes("HERE is the root behind " + what, Volumes.isInRoot(x));
        }
    }

    static void promise4_refusedLeavesHereAlone(Check check) {
        InodeVolumes x = Volumes.inSub();
        int[][] refused = {{0, 1, -1}, {-1, 0, 1}, {0, -1, 1}, {0, Volumes.SMALL_END, 1}, {Volumes.SMALL_END, 0, 1},
            {-1, -1, -1}};
        for (int[] r : refused) {
            String what = "copy of " + r[2] + " from " + r[0] + " to " + r[1];
            check.same(what, x.copy(r[0], r[1], r[2]), false);
            check.yes("HERE is sub behind " + what, Volumes.isInSub(x));
        }
    }
}
