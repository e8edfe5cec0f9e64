import java.util.Random;

/** Promises 2 to 5: the same calls on an object and on a plain row of bytes. */
public final class Promise02to05ByChanceTest {
    public static void main(String[] args) {
        Cases.run(Promise02to05ByChanceTest.class);
    }

    /** At and round the edges, and where the ranges overlap; then the bytes there and some others are looked at. */
    static void promise2to5_asOnARowOfBytes(Check check) {
        Random random = new Random(11);
        for (int run = 0; run < 400; run++) {
            int blocks = 128 + random.nextInt(385);
            int end = 1024 * blocks;
            InodeVolumes x = new InodeVolumes(blocks);
            byte[] row = new byte[end];
            for (int call = 0; call < 200; call++) {
                one(check, x, row, end, random);
            }
            for (int i = 0; i < 90; i++) {
                for (int at : new int[] {i, 1990 + i, end - 80 + i}) {
                    check.same("byte " + at + " of run " + run, x.byteAt(at), at < end ? row[at] & 255 : -1);
                }
            }
            for (int i = 0; i < 40; i++) {
                int at = random.nextInt(end);
                check.same("byte " + at + " of run " + run, x.byteAt(at), row[at] & 255);
            }
        }
    }

    private static void one(Check check, InodeVolumes x, byte[] row, int end, Random random) {
        int window = random.nextInt(3) == 0 ? 0 : random.nextInt(2) == 0 ? end - 70 : 2000;
        int at = window + random.nextInt(80) - 4;
        int to = random.nextInt(3) == 0 ? random.nextInt(end) : window + random.nextInt(80) - 4;
        int n = random.nextInt(9) == 0 ? random.nextInt(end) : random.nextInt(70) - 2;
        switch (random.nextInt(3)) {
            case 0: {
                int bytes = random.nextInt(11) - 1;
                long value = random.nextLong();
                boolean good = bytes >= 1 && bytes <= 8 && at >= 0 && at + bytes <= end;
                check.same("put(" + at + ", " + bytes + ")", x.put(at, bytes, value), good);
                for (int i = 0; good && i < bytes; i++) {
                    row[at + i] = (byte) (value >> 8 * i);
                }
                break;
            }
            case 1: {
                int value = random.nextInt();
                boolean good = n == 0 || n > 0 && at >= 0 && at + n <= end;
                check.same("fill(" + at + ", " + n + ")", x.fill(at, n, value), good);
                if (good && n > 0) {
                    java.util.Arrays.fill(row, at, at + n, (byte) value);
                }
                break;
            }
            default: {
                boolean good = n == 0 || n > 0 && at >= 0 && at + n <= end && to >= 0 && to + n <= end;
                check.same("copy(" + at + ", " + to + ", " + n + ")", x.copy(at, to, n), good);
                if (good && n > 0) {
                    System.arraycopy(row, at, row, to, n);
                }
            }
        }
    }
}
