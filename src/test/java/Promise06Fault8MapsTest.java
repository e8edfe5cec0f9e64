/** Promise 6, fault 8: the maps, and the numbers of what is free and of the directories. */
public final class Promise06Fault8MapsTest {
    public static void main(String[] args) {
        Cases.run(Promise06Fault8MapsTest.class);
    }

    private static void flips(Check check, int g, int k, boolean to) {
        Volumes.expect(check, "bit " + k + " of block map " + g, 8, v -> v.bit(v.map[g], k, to));
    }

    static void promise6_fault8_aFixedBlocksBitIs0(Check check) {
        for (int k = 0; k < 6; k++) {
            flips(check, 0, k, false);
            flips(check, 1, k, false);
        }
    }

    static void promise6_fault8_anInodesBlocksBitIs0(Check check) {
        VolumeMaker made = Volumes.small().make();
        int seen = 0;
        for (int b = 1; b < 128; b++) {
            int g = (b - 1) / 64;
            int k = (b - 1) % 64;
            if (made.taken[b] && k >= 6) {
                flips(check, g, k, false);
                seen++;
            }
        }
        check.same("blocks of inodes, an indirect one among them", seen, 1 + 2 + 2 + 1 + 1 + 15);
    }

    static void promise6_fault8_aFreeBlocksBitIs1(Check check) {
        VolumeMaker made = Volumes.small().make();
        for (int b = 1; b < 128; b++) {
            if (!made.taken[b]) {
                flips(check, (b - 1) / 64, (b - 1) % 64, true);
            }
        }
    }

    /** The numbers of free blocks agree with the map, but the map not with what is used. */
    static void promise6_fault8_theMapAndItsNumbersAgreeButAreWrong(Check check) {
        Volumes.expect(check, "a free block that is told to be used", 8, v -> {
            v.taken[127] = true;
            v.count();
        });
        Volumes.expect(check, "a used block that is told to be free", 8, v -> {
            v.taken[Volumes.inside(v.root, Volumes.A).blocks.get(1)] = false;
            v.count();
        });
    }

    static void promise6_fault8_bitsBehindTheGroupsBlocks(Check check) {
        for (int k : new int[] {64, 65, 71, 72, 127, 128, 1000, 4095, 4096, 8184, 8190, 8191}) {
            flips(check, 0, k, false);
            flips(check, 1, k, false);
        }
        flips(check, 1, 63, false);
        for (int[] s : new int[][] {{128, 256}, {200, 128}, {300, 256}, {512, 256}, {135, 64}}) {
            VolumeMaker made = new VolumeMaker(s[0], s[1], 8).make();
            int g = made.groups - 1;
            for (int k : new int[] {made.count(g), made.count(g) + 1, s[1], 8191}) {
                VolumeMaker v = new VolumeMaker(s[0], s[1], 8).make();
                v.bit(v.map[g], k, false);
                Volumes.judge(check, s[0] + " blocks, " + s[1] + " in a group, bit " + k, 8, v);
            }
        }
    }

    static void promise6_fault8_bitsBehindTheGroupsInodes(Check check) {
        for (int g = 0; g < 2; g++) {
            int group = g;
            for (int k : new int[] {16, 17, 23, 24, 31, 63, 64, 65, 127, 128, 4000, 8184, 8191}) {
                Volumes.expect(check, "bit " + k + " of inode map " + g, 8, v -> v.bit(v.map[group] + 1, k, false));
            }
        }
        for (int inodes : new int[] {8, 24, 56, 64, 72, 128, 400}) {
            for (int k : new int[] {inodes, inodes + 7, inodes + 63, inodes + 64, 8191}) {
                VolumeMaker v = new VolumeMaker(128, 256, inodes).make();
                v.bit(v.map[0] + 1, k, false);
                Volumes.judge(check, inodes + " inodes, bit " + k, 8, v);
            }
        }
    }

    private static void numberIs(Check check, String what, int place, int n, int bits) {
        for (int more : new int[] {-1, 1}) {
            Volumes.expect(check, what + " by " + more, 8, v -> v.poke(place, n, v.peek(place, n) + more));
        }
        for (int bit = 0; bit < bits; bit++) {
            long one = 1L << bit;
            Volumes.expect(check, what + ", bit " + bit, 8, v -> v.poke(place, n, v.peek(place, n) ^ one));
        }
    }

    static void promise6_fault8_freeBlocksOfAGroup(Check check) {
        numberIs(check, "group 0", Volumes.DESCRIPTORS + 12, 2, 16);
        numberIs(check, "group 1", Volumes.DESCRIPTORS + 32 + 12, 2, 16);
        exchanged(check, 12);
    }

    static void promise6_fault8_freeInodesOfAGroup(Check check) {
        numberIs(check, "group 0", Volumes.DESCRIPTORS + 14, 2, 16);
        numberIs(check, "group 1", Volumes.DESCRIPTORS + 32 + 14, 2, 16);
        exchanged(check, 14);
    }

    static void promise6_fault8_directoriesOfAGroup(Check check) {
        VolumeMaker made = Volumes.small().make();
        check.same("2, 11 and 13 are in group 0", made.peek(Volumes.DESCRIPTORS + 16, 2), 3);
        check.same("20 is in group 1", made.peek(Volumes.DESCRIPTORS + 32 + 16, 2), 1);
        numberIs(check, "group 0", Volumes.DESCRIPTORS + 16, 2, 16);
        numberIs(check, "group 1", Volumes.DESCRIPTORS + 32 + 16, 2, 16);
        exchanged(check, 16);
    }

    /** One more in a group and one less in the other, so that all together are as many as before. */
    private static void exchanged(Check check, int at) {
        Volumes.expect(check, "exchanged at " + at, 8, v -> {
            int one = Volumes.DESCRIPTORS + at;
            int other = Volumes.DESCRIPTORS + 32 + at;
            v.poke(one, 2, v.peek(one, 2) + 1);
            v.poke(other, 2, v.peek(other, 2) - 1);
        });
    }

    static void promise6_fault8_theLastOfEightGroups(Check check) {
        for (int at : new int[] {12, 14, 16}) {
            VolumeMaker v = Volumes.small(512, 64, 8).make();
            int place = Volumes.DESCRIPTORS + 32 * 7 + at;
            v.poke(place, 2, v.peek(place, 2) + 1);
            v.mirror();
            Volumes.judge(check, "at " + at, 8, v);
        }
    }

    static void promise6_fault8_freeBlocksOfAllGroups(Check check) {
        numberIs(check, "at 12", Volumes.SUPER + 12, 4, 32);
    }

    static void promise6_fault8_freeInodesOfAllGroups(Check check) {
        numberIs(check, "at 16", Volumes.SUPER + 16, 4, 32);
    }

    /** The volume's first block is block 1: block 0 is nobody's, and not free either. */
    static void promise6_fault8_block0IsNotCounted(Check check) {
        VolumeMaker v = Volumes.bare().make();
        check.same("free blocks", v.peek(Volumes.SUPER + 12, 4), 127 - 5 - 1);
        Volumes.judge(check, "127 blocks but for 6", 0, v);
    }
}
