/** Promise 6, fault 1: the superblock, number by number. */
public final class Promise06Fault1SuperblockTest {
    public static void main(String[] args) {
        Cases.run(Promise06Fault1SuperblockTest.class);
    }

    /** In the small volume each of the values is a fault, and so is each other bit of the number. */
    private static void isFault(Check check, int at, int n, long... values) {
        for (long value : values) {
            Volumes.expect(check, value + " at " + at, 1, v -> v.poke(Volumes.SUPER + at, n, value));
        }
        for (int bit = 0; bit < 8 * n; bit++) {
            long one = 1L << bit;
            Volumes.expect(check, "bit " + bit + " at " + at, 1,
                    v -> v.poke(Volumes.SUPER + at, n, v.peek(Volumes.SUPER + at, n) ^ one));
        }
    }

    static void promise6_fault1_aDiskOfZeros(Check check) {
        Volumes.judge(check, "nothing at all", 1, new VolumeMaker(128, 64, 16));
    }

    static void promise6_fault1_aDiskOfOnes(Check check) {
        InodeVolumes x = new InodeVolumes(128);
        x.fill(0, 128 * 1024, 255);
        check.same("all bytes 255", x.fault(), 1);
    }

    static void promise6_fault1_at0AreAllInodes(Check check) {
        isFault(check, 0, 4, 0, 16, 31, 33, 48, 0xFFFFFFFFL);
    }

    static void promise6_fault1_at4AreTheBlocks(Check check) {
        isFault(check, 4, 4, 0, 127, 129, 512);
    }

    static void promise6_fault1_at20Is1(Check check) {
        isFault(check, 20, 4, 0, 2, 0xFFFFFFFFL);
    }

    static void promise6_fault1_at24Is0(Check check) {
        isFault(check, 24, 4, 1, 2, 0xFFFFFFFFL);
    }

    static void promise6_fault1_at32Are64Or128Or256(Check check) {
        isFault(check, 32, 4, 0, 128, 256);
        for (int p : new int[] {64, 128, 256}) {
            Volumes.judge(check, "groups of " + p, 0, Volumes.small(512, p, 16).make());
        }
        for (long p : new long[] {0, 1, 8, 32, 63, 65, 96, 127, 129, 192, 255, 257, 512, 1024, 8192, 65536 + 64,
            0x80000000L, 0x80000040L, 0xFFFFFFFFL}) {
            Volumes.expect(check, "groups of " + p, 1, v -> {
                v.poke(Volumes.SUPER + 32, 4, p);
                v.poke(Volumes.SUPER + 36, 4, p);
            });
        }
    }

    static void promise6_fault1_at32Is0WhereAllInodesAre0(Check check) {
        Volumes.expect(check, "0 at 0, 32 and 36", 1, v -> {
            v.poke(Volumes.SUPER, 4, 0);
            v.poke(Volumes.SUPER + 32, 8, 0);
        });
        Volumes.expect(check, "0 at 0, 32, 36 and 40", 1, v -> {
            v.poke(Volumes.SUPER, 4, 0);
            v.poke(Volumes.SUPER + 32, 8, 0);
            v.poke(Volumes.SUPER + 40, 4, 0);
        });
    }

    static void promise6_fault1_at36IsTheSameAsAt32(Check check) {
        isFault(check, 36, 4, 0, 63, 65, 128, 256);
        VolumeMaker v = Volumes.small(512, 256, 16).make();
        v.poke(Volumes.SUPER + 36, 4, 128);
        v.mirror();
        Volumes.judge(check, "256 at 32, 128 at 36", 1, v);
    }

    private static void setInodes(VolumeMaker v, long perGroup) {
        v.poke(Volumes.SUPER + 40, 4, perGroup);
        v.poke(Volumes.SUPER, 4, v.groups * perGroup);
    }

    static void promise6_fault1_at40IsAMultipleOf8(Check check) {
        isFault(check, 40, 4, 0, 8, 24, 32);
        for (int g : new int[] {9, 10, 11, 12, 13, 14, 15, 17, 20, 28, 60, 100, 1001, 8188, 8191}) {
            Volumes.expect(check, g + " inodes in a group", 1, v -> setInodes(v, g));
        }
    }

    static void promise6_fault1_at40IsNotLessThan8(Check check) {
        Volumes.judge(check, "8 inodes in a group", 0, Volumes.small(512, 64, 8).make());
        for (long g : new long[] {0, 1, 4, 7, 0xFFFFFFF8L, 0xFFFFFFFFL, 0x80000008L}) {
            Volumes.expect(check, g + " inodes in a group", 1, v -> setInodes(v, g));
        }
    }

    /** No group has 1024 blocks for 8192 inodes, so that the superblock stands and the group does not. */
    static void promise6_fault1_at40IsNotMoreThan8192(Check check) {
        Volumes.expect(check, "8184 inodes in a group", 3, v -> setInodes(v, 8184));
        Volumes.expect(check, "8192 inodes in a group", 3, v -> setInodes(v, 8192));
        for (long g : new long[] {8193, 8196, 8200, 16384, 65536, 65552, 1 << 30}) {
            Volumes.expect(check, g + " inodes in a group", 1, v -> setInodes(v, g));
        }
    }

    static void promise6_fault1_at56Is61267(Check check) {
        isFault(check, 56, 2, 0, 61266, 61268, 0x53EF);
    }

    static void promise6_fault1_at58Is1(Check check) {
        isFault(check, 58, 2, 0, 2, 65535);
    }

    static void promise6_fault1_at76Is1(Check check) {
        isFault(check, 76, 4, 0, 2, 0xFFFFFFFFL);
    }

    static void promise6_fault1_at84Is11(Check check) {
        isFault(check, 84, 4, 0, 10, 12);
    }

    static void promise6_fault1_at88Is128(Check check) {
        isFault(check, 88, 2, 0, 127, 129, 256);
    }

    static void promise6_fault1_at90Is0(Check check) {
        isFault(check, 90, 2, 1, 2, 65535);
    }

    static void promise6_fault1_at96Is2(Check check) {
        isFault(check, 96, 4, 0, 1, 3);
    }

    /** Q = (B - 1) / P up: the superblock of as many blocks, with the right Q * G and with Q one less and one more. */
    static void promise6_fault1_thereAreQGroupsUp(Check check) {
        int[][] shapes = {{128, 64, 2, 0}, {129, 64, 2, 0}, {130, 64, 3, 2}, {192, 64, 3, 0}, {193, 64, 3, 0},
            {194, 64, 4, 2}, {128, 128, 1, 0}, {129, 128, 1, 0}, {130, 128, 2, 2}, {256, 256, 1, 0}, {257, 256, 1, 0},
            {258, 256, 2, 2}, {512, 64, 8, 0}, {512, 128, 4, 0}, {512, 256, 2, 0}};
        for (int[] s : shapes) {
            String who = s[0] + " blocks, " + s[1] + " in a group";
            for (int more = -1; more <= 1; more++) {
                VolumeMaker v = new VolumeMaker(s[0], s[1], 8);
                if (s[3] == 0) {
                    v.make();
                } else {
                    v.describe();
                }
                v.poke(Volumes.SUPER, 4, 8 * (s[2] + more));
                v.mirror();
                Volumes.judge(check, who + ", so many groups more: " + more, more == 0 ? s[3] : 1, v);
            }
        }
    }
}
