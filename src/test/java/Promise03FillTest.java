/** Promise 3: fill. */
public final class Promise03FillTest {
    public static void main(String[] args) {
        Cases.run(Promise03FillTest.class);
    }

    static void promise3_theBytesAndNoOthersBecomeTheValue(Check check) {
        for (int n = 1; n <= 26; n++) {
            for (int at = 8; at < 16; at++) {
                InodeVolumes x = Bytes.ground();
                String what = "fill of " + n + " at " + at;
                check.same(what, x.fill(at, n, 0x17), true);
                Bytes.areAll(check, what + ", ahead", x, 0, at, Bytes.GROUND);
                Bytes.areAll(check, what, x, at, at + n, 0x17);
                Bytes.areAll(check, what + ", behind", x, at + n, 56, Bytes.GROUND);
            }
        }
    }

    static void promise3_ofTheValueTheLowestEightBitsAreTaken(Check check) {
        int[][] values = {{0, 0}, {1, 1}, {127, 127}, {128, 128}, {255, 255}, {256, 0}, {257, 1}, {300, 44}, {511, 255},
            {-1, 255}, {-128, 128}, {-256, 0}, {-257, 255}, {Integer.MIN_VALUE, 0}, {Integer.MAX_VALUE, 255}};
        for (int[] v : values) {
            InodeVolumes x = Bytes.ground();
            check.same("fill with " + v[0], x.fill(3, 11, v[0]), true);
            Bytes.areAll(check, "fill with " + v[0], x, 3, 14, v[1]);
            Bytes.are(check, "behind a fill with " + v[0], x, 14, Bytes.GROUND, Bytes.GROUND, Bytes.GROUND);
        }
    }

    static void promise3_ofNoBytesAnywhereIsTrueAndChangesNothing(Check check) {
        InodeVolumes x = Bytes.ground();
        for (int at : new int[] {0, 1, 8, Bytes.END - 1}) {
            check.same("fill of none at " + at, x.fill(at, 0, 1), true);
        }
        for (int at : Bytes.OFF) {
            check.same("fill of none at " + at, x.fill(at, 0, 1), true);
        }
        Bytes.areGround(check, "fill of none", x);
    }

    private static void isRefused(Check check, int at, int n) {
        InodeVolumes x = Bytes.ground();
        String what = "fill of " + n + " at " + at;
        check.same(what, x.fill(at, n, 1), false);
        Bytes.areGround(check, what, x);
    }

    static void promise3_ofFewerThanNoBytesIsRefused(Check check) {
        for (int n : new int[] {-1, -2, -8, -1024, Integer.MIN_VALUE, Integer.MIN_VALUE + 1}) {
            isRefused(check, 0, n);
            isRefused(check, 16, n);
            isRefused(check, Bytes.END - 1, n);
            for (int at : Bytes.OFF) {
                isRefused(check, at, n);
            }
        }
    }

    static void promise3_ofAllTheDisk(Check check) {
        InodeVolumes x = Bytes.ground();
        check.same("fill of all", x.fill(0, Bytes.END, 5), true);
        Bytes.areAll(check, "fill of all", x, 0, 64, 5);
        Bytes.areAll(check, "fill of all", x, Bytes.END / 2, Bytes.END / 2 + 64, 5);
        Bytes.areAll(check, "fill of all", x, Bytes.END - 64, Bytes.END, 5);
    }

    static void promise3_ofMoreThanTheDiskIsRefused(Check check) {
        for (int n : new int[] {Bytes.END + 1, Bytes.END + 8, 2 * Bytes.END, Integer.MAX_VALUE}) {
            isRefused(check, 0, n);
        }
    }

    static void promise3_upToTheLastByte(Check check) {
        for (int n = 1; n <= 20; n++) {
            InodeVolumes x = Bytes.ground();
            check.same("fill of " + n + " up to the end", x.fill(Bytes.END - n, n, 5), true);
            check.same("ahead of it", x.byteAt(Bytes.END - n - 1), Bytes.GROUND);
            Bytes.areAll(check, "fill of " + n + " up to the end", x, Bytes.END - n, Bytes.END, 5);
        }
    }

    static void promise3_overTheDisksEndIsRefused(Check check) {
        for (int n = 1; n <= 20; n++) {
            isRefused(check, Bytes.END - n + 1, n);
            isRefused(check, Bytes.END, n);
        }
    }

    static void promise3_overTheDisksBeginningIsRefused(Check check) {
        for (int n = 1; n <= 20; n++) {
            isRefused(check, -1, n);
            isRefused(check, -n, n);
        }
        isRefused(check, -1, Bytes.END);
        isRefused(check, -1, Bytes.END + 1);
    }

    /** The place and the number of bytes together go round behind the greatest number. */
    static void promise3_farOffTheDiskIsRefused(Check check) {
        for (int at : Bytes.OFF) {
            for (int n : new int[] {1, 8, Bytes.END, Integer.MAX_VALUE - 1, Integer.MAX_VALUE}) {
                isRefused(check, at, n);
            }
        }
        isRefused(check, 1, Integer.MAX_VALUE);
        isRefused(check, 2, Integer.MAX_VALUE);
    }

    static void promise3_makesTheRootHereAgain(Check check) {
        int[][] done = {{0, 1}, {0, 1024}, {0, 0}, {-1, 0}, {Volumes.SMALL_END + 1, 0}};
        for (int[] d : done) {
            InodeVolumes x = Volumes.inSub();
            check.same("fill of " + d[1] + " at " + d[0], x.fill(d[0], d[1], 0), true);
            check.yes("HERE is the root behind fill of " + d[1] + " at " + d[0], Volumes.isInRoot(x));
        }
    }

    static void promise3_refusedLeavesHereAlone(Check check) {
        InodeVolumes x = Volumes.inSub();
        int[][] refused = {{0, -1}, {-1, -1}, {-1, 1}, {Volumes.SMALL_END, 1}, {0, Volumes.SMALL_END + 1}};
        for (int[] r : refused) {
            check.same("fill of " + r[1] + " at " + r[0], x.fill(r[0], r[1], 0), false);
            check.yes("HERE is sub behind fill of " + r[1] + " at " + r[0], Volumes.isInSub(x));
        }
    }
}
