/** Promise 2: put. */
public final class Promise02PutTest {
    private static final long VALUE = 0x8877665544332211L;

    public static void main(String[] args) {
        Cases.run(Promise02PutTest.class);
    }

    static void promise2_bytesFrom1To8StandWithTheLowestFirst(Check check) {
        for (int n = 1; n <= 8; n++) {
            for (int at = 8; at < 24; at++) {
                InodeVolumes x = Bytes.ground();
                check.same("put of " + n + " at " + at, x.put(at, n, VALUE), true);
                for (int i = 0; i < n; i++) {
                    check.same("byte " + i + " of " + n + " at " + at, x.byteAt(at + i), 0x11 * (i + 1));
                }
                Bytes.areAll(check, "ahead of " + n + " at " + at, x, 0, at, Bytes.GROUND);
                Bytes.areAll(check, "behind " + n + " at " + at, x, at + n, 40, Bytes.GROUND);
            }
        }
    }

    static void promise2_ofTheValueTheLowestBytesAreTaken(Check check) {
        InodeVolumes x = Bytes.ground();
        check.same("256 in one byte", x.put(0, 1, 256), true);
        Bytes.are(check, "256 in one byte", x, 0, 0, Bytes.GROUND);
        check.same("-1 in one byte", x.put(0, 1, -1), true);
        Bytes.are(check, "-1 in one byte", x, 0, 255, Bytes.GROUND);
        check.same("65536 + 258 in two", x.put(8, 2, 65536 + 258), true);
        Bytes.are(check, "65536 + 258 in two", x, 8, 2, 1, Bytes.GROUND);
        check.same("1 << 32 in four", x.put(16, 4, 1L << 32), true);
        Bytes.are(check, "1 << 32 in four", x, 16, 0, 0, 0, 0, Bytes.GROUND);
        check.same("1 << 32 in five", x.put(24, 5, 1L << 32), true);
        Bytes.are(check, "1 << 32 in five", x, 24, 0, 0, 0, 0, 1, Bytes.GROUND);
        check.same("the least in seven", x.put(32, 7, Long.MIN_VALUE), true);
        Bytes.are(check, "the least in seven", x, 32, 0, 0, 0, 0, 0, 0, 0, Bytes.GROUND);
        check.same("the least in eight", x.put(40, 8, Long.MIN_VALUE), true);
        Bytes.are(check, "the least in eight", x, 40, 0, 0, 0, 0, 0, 0, 0, 128, Bytes.GROUND);
        check.same("the most in eight", x.put(48, 8, Long.MAX_VALUE), true);
        Bytes.are(check, "the most in eight", x, 48, 255, 255, 255, 255, 255, 255, 255, 127, Bytes.GROUND);
        check.same("-2 in eight", x.put(56, 8, -2), true);
        Bytes.are(check, "-2 in eight", x, 56, 254, 255, 255, 255, 255, 255, 255, 255, Bytes.GROUND);
    }

    private static void isRefused(Check check, int at, int n) {
        InodeVolumes x = Bytes.ground();
        String what = "put of " + n + " at " + at;
        check.same(what, x.put(at, n, VALUE), false);
        Bytes.areGround(check, what, x);
    }

    static void promise2_ofNoBytesIsRefused(Check check) {
        isRefused(check, 0, 0);
        isRefused(check, Bytes.END - 1, 0);
        for (int at : Bytes.OFF) {
            isRefused(check, at, 0);
        }
    }

    static void promise2_ofFewerThanNoBytesIsRefused(Check check) {
        for (int n : new int[] {-1, -2, -7, -8, -9, Integer.MIN_VALUE, Integer.MIN_VALUE + 1}) {
            isRefused(check, 16, n);
        }
    }

    static void promise2_ofMoreThan8BytesIsRefused(Check check) {
        for (int n : new int[] {9, 10, 16, 64, 255, 256, 257, Integer.MAX_VALUE - 1, Integer.MAX_VALUE}) {
            isRefused(check, 0, n);
            isRefused(check, 16, n);
        }
    }

    static void promise2_fromTheFirstByteOn(Check check) {
        for (int n = 1; n <= 8; n++) {
            InodeVolumes x = Bytes.ground();
            check.same("put of " + n + " at 0", x.put(0, n, VALUE), true);
            check.same("first byte", x.byteAt(0), 0x11);
            check.same("last byte", x.byteAt(n - 1), 0x11 * n);
            check.same("behind it", x.byteAt(n), Bytes.GROUND);
        }
    }

    static void promise2_upToTheLastByte(Check check) {
        for (int n = 1; n <= 8; n++) {
            InodeVolumes x = Bytes.ground();
            check.same("put of " + n + " up to the end", x.put(Bytes.END - n, n, VALUE), true);
            check.same("ahead of it", x.byteAt(Bytes.END - n - 1), Bytes.GROUND);
            check.same("first byte", x.byteAt(Bytes.END - n), 0x11);
            check.same("last byte", x.byteAt(Bytes.END - 1), 0x11 * n);
        }
    }

    static void promise2_overTheDisksEndIsRefused(Check check) {
        for (int n = 1; n <= 8; n++) {
            for (int over = 1; over <= n; over++) {
                isRefused(check, Bytes.END - n + over, n);
            }
        }
    }

    static void promise2_overTheDisksBeginningIsRefused(Check check) {
        for (int n = 1; n <= 8; n++) {
            for (int before = 1; before <= n; before++) {
                isRefused(check, -before, n);
            }
        }
    }

    static void promise2_farOffTheDiskIsRefused(Check check) {
        for (int n = 1; n <= 8; n++) {
            for (int at : Bytes.OFF) {
                isRefused(check, at, n);
            }
        }
    }

    static void promise2_makesTheRootHereAgain(Check check) {
        InodeVolumes x = Volumes.inSub();
        check.same("a put that changes nothing", x.put(0, 1, 0), true);
        check.yes("HERE is the root", Volumes.isInRoot(x));
    }

    static void promise2_refusedLeavesHereAlone(Check check) {
        InodeVolumes x = Volumes.inSub();
        int[][] refused = {{0, 0}, {0, -1}, {0, 9}, {-1, 1}, {-1, 0}, {Volumes.SMALL_END, 1}, {Volumes.SMALL_END - 7, 8}};
        for (int[] r : refused) {
            check.same("put of " + r[1] + " at " + r[0], x.put(r[0], r[1], 0), false);
            check.yes("HERE is sub behind put of " + r[1] + " at " + r[0], Volumes.isInSub(x));
        }
    }
}
