import java.util.Random;

/** Promises 1 to 5: a new object, put, fill, copy, byteAt. */
public final class BytesTest {
    private static final Check check = new Check("BytesTest");

    public static void main(String[] args) {
        newObject();
        putEdges();
        fillEdges();
        copyEdges();
        againstARow();
        check.end();
    }

    private static void newObject() {
        int[][] sizes = {{Integer.MIN_VALUE, 128}, {-1, 128}, {0, 128}, {127, 128}, {128, 128}, {129, 129},
            {300, 300}, {511, 511}, {512, 512}, {513, 512}, {Integer.MAX_VALUE, 512}};
        for (int[] s : sizes) {
            InodeVolumes x = new InodeVolumes(s[0]);
            int end = 1024 * s[1];
            check.same("last byte of " + s[0], x.byteAt(end - 1), 0);
            check.same("behind the last byte of " + s[0], x.byteAt(end), InodeVolumes.NONE);
            check.same("put on the last byte of " + s[0], x.put(end - 1, 1, 5), true);
            check.same("put behind the last byte of " + s[0], x.put(end, 1, 5), false);
            check.same("fill all of " + s[0], x.fill(0, end, 9), true);
            check.same("fill more than all of " + s[0], x.fill(0, end + 1, 9), false);
            check.same("copy all of " + s[0], x.copy(0, 0, end), true);
            check.same("copy more than all of " + s[0], x.copy(0, 0, end + 1), false);
        }
        InodeVolumes x = new InodeVolumes(128);
        check.same("all bytes of a new object together", allBytes(x, 128 * 1024), 0);
    }

    /** Places on the disk, at its edges and far off it. */
    private static int[] placesAnywhere(int end) {
        return new int[] {0, 5, 8, end - 1, end, end + 1, -1, -8, Integer.MIN_VALUE, Integer.MAX_VALUE};
    }

    /** One number of all bytes, 0 if they are all 0; another one as soon as a single byte is another. */
    private static int allBytes(InodeVolumes x, int end) {
        int sum = 0;
        for (int at = 0; at < end; at++) {
            sum = 31 * sum + x.byteAt(at);
        }
        return sum;
    }

    private static void putEdges() {
        InodeVolumes x = new InodeVolumes(128);
        int end = 128 * 1024;
        long value = 0x8877665544332211L;
        for (int n = -2; n <= 11; n++) {
            x.fill(0, 64, 0xAA);
            boolean good = n >= 1 && n <= 8;
            check.same("put of " + n, x.put(13, n, value), good);
            for (int i = 0; i < 24; i++) {
                boolean in = good && i >= 13 && i < 13 + n;
                check.same("byte " + i + " after put of " + n, x.byteAt(i), in ? 0x11 * (i - 12) : 0xAA);
            }
        }
        for (int n = 1; n <= 8; n++) {
            check.same("put up to the end", x.put(end - n, n, -1), true);
            check.same("put over the end", x.put(end - n + 1, n, -1), false);
            check.same("put before the disk", x.put(-1, n, -1), false);
            check.same("put far before", x.put(Integer.MIN_VALUE, n, -1), false);
            check.same("put far behind", x.put(Integer.MAX_VALUE, n, -1), false);
        }
        check.same("put of very many", x.put(0, Integer.MAX_VALUE, 0), false);
        check.same("put of very few", x.put(0, Integer.MIN_VALUE, 0), false);
        check.same("a refused put changes nothing", x.byteAt(0), 0xAA);
        for (int at : new int[] {-1, end, Integer.MIN_VALUE, Integer.MAX_VALUE}) {
            check.same("byteAt " + at, x.byteAt(at), InodeVolumes.NONE);
        }
    }

    private static void fillEdges() {
        InodeVolumes x = new InodeVolumes(128);
        int end = 128 * 1024;
        for (int at : placesAnywhere(end)) {
            check.same("fill of none at " + at, x.fill(at, 0, 1), true);
            check.same("fill of -1 at " + at, x.fill(at, -1, 1), false);
        }
        check.same("fills of none change nothing", allBytes(x, end), 0);
        check.same("fill of -1", x.fill(5, -1, 1), false);
        check.same("fill of the least", x.fill(5, Integer.MIN_VALUE, 1), false);
        check.same("fill of the most", x.fill(5, Integer.MAX_VALUE, 1), false);
        check.same("fill from the most", x.fill(Integer.MAX_VALUE, 1, 1), false);
        check.same("fill from the most of the most", x.fill(Integer.MAX_VALUE, Integer.MAX_VALUE, 1), false);
        check.same("fill before the disk", x.fill(-1, 2, 1), false);
        check.same("fill over the end", x.fill(end - 3, 4, 1), false);
        check.same("refused fills change nothing", x.byteAt(0) + x.byteAt(end - 1), 0);
        check.same("fill up to the end", x.fill(end - 3, 3, -1), true);
        check.same("fill with -1", x.byteAt(end - 1), 255);
        check.same("ahead of a fill", x.byteAt(end - 4), 0);
        check.same("fill with 256", x.fill(end - 3, 3, 256), true);
        check.same("256 is 0", x.byteAt(end - 2), 0);
    }

    private static void copyEdges() {
        InodeVolumes x = new InodeVolumes(128);
        int end = 128 * 1024;
        x.put(0, 8, 0x0807060504030201L);
        int before = allBytes(x, end);
        for (int from : placesAnywhere(end)) {
            for (int to : placesAnywhere(end)) {
                check.same("copy of none from " + from + " to " + to, x.copy(from, to, 0), true);
                check.same("copy of -1 from " + from + " to " + to, x.copy(from, to, -1), false);
            }
        }
        check.same("copies of none change nothing", allBytes(x, end), before);
        check.same("copy of -1", x.copy(0, 8, -1), false);
        check.same("copy of the least", x.copy(0, 8, Integer.MIN_VALUE), false);
        check.same("copy of the most", x.copy(0, 8, Integer.MAX_VALUE), false);
        check.same("copy from before", x.copy(-1, 8, 4), false);
        check.same("copy to before", x.copy(8, -1, 4), false);
        check.same("copy from over the end", x.copy(end - 3, 0, 4), false);
        check.same("copy to over the end", x.copy(0, end - 3, 4), false);
        check.same("refused copies change nothing", x.byteAt(0), 1);
        check.same("copy to the end", x.copy(0, end - 4, 4), true);
        check.same("copied to the end", x.byteAt(end - 1), 4);
        check.same("copy from the end", x.copy(end - 4, 100, 4), true);
        check.same("copied from the end", x.byteAt(103), 4);
        check.same("copy onto what it reads", x.copy(0, 2, 6), true);
        int[] due = {1, 2, 1, 2, 3, 4, 5, 6};
        for (int i = 0; i < 8; i++) {
            check.same("copied upwards, byte " + i, x.byteAt(i), due[i]);
        }
        check.same("copy back", x.copy(2, 0, 6), true);
        int[] back = {1, 2, 3, 4, 5, 6, 5, 6};
        for (int i = 0; i < 8; i++) {
            check.same("copied downwards, byte " + i, x.byteAt(i), back[i]);
        }
    }

    /** The same calls on a row of bytes, at and round the edges and where the ranges overlap. */
    private static void againstARow() {
        Random random = new Random(11);
        for (int run = 0; run < 60; run++) {
            int blocks = 128 + random.nextInt(385);
            int end = 1024 * blocks;
            InodeVolumes x = new InodeVolumes(blocks);
            byte[] row = new byte[end];
            for (int call = 0; call < 300; call++) {
                one(x, row, end, random);
            }
            for (int at = 0; at < end; at++) {
                if (x.byteAt(at) != (row[at] & 255)) {
                    check.same("byte " + at + " of run " + run, x.byteAt(at), row[at] & 255);
                }
            }
        }
    }

    private static void one(InodeVolumes x, byte[] row, int end, Random random) {
        int window = random.nextInt(3) == 0 ? 0 : random.nextInt(2) == 0 ? end - 70 : 2000;
        int at = window + random.nextInt(80) - 4;
        int to = random.nextInt(3) == 0 ? random.nextInt(end) : window + random.nextInt(80) - 4;
        int n = random.nextInt(9) == 0 ? random.nextInt(end) : random.nextInt(70) - 2;
        switch (random.nextInt(3)) {
            case 0: {
                int bytes = random.nextInt(11) - 1;
                long value = random.nextLong();
                boolean good = bytes >= 1 && bytes <= 8 && at >= 0 && at + bytes <= end;
                check.same("put(" + at + ", " + bytes + ")", x.put(at, bytes, value), good);
                for (int i = 0; good && i < bytes; i++) {
                    row[at + i] = (byte) (value >> 8 * i);
                }
                break;
            }
            case 1: {
                int value = random.nextInt();
                boolean good = n == 0 || n > 0 && at >= 0 && at + n <= end;
                check.same("fill(" + at + ", " + n + ")", x.fill(at, n, value), good);
                if (good && n > 0) {
                    java.util.Arrays.fill(row, at, at + n, (byte) value);
                }
                break;
            }
            default: {
                boolean good = n == 0 || n > 0 && at >= 0 && at + n <= end && to >= 0 && to + n <= end;
                check.same("copy(" + at + ", " + to + ", " + n + ")", x.copy(at, to, n), good);
                if (good && n > 0) {
                    System.arraycopy(row, at, row, to, n);
                }
            }
        }
    }
}
