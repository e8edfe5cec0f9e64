/** Promise 6, fault 2: the copies of the superblock and the descriptors in each group but the first. */
public final class Promise06Fault2CopiesTest {
    private static final int COPY = 1024 * 65;

    public static void main(String[] args) {
        Cases.run(Promise06Fault2CopiesTest.class);
    }

    private static VolumeMaker described(int blocks, int perGroup) {
        VolumeMaker v = new VolumeMaker(blocks, perGroup, 8);
        v.describe();
        v.mirror();
        return v;
    }

    static void promise6_fault2_aLastGroupOfOneBlock(Check check) {
        for (int[] s : new int[][] {{130, 64}, {130, 128}, {194, 64}, {258, 64}, {258, 128}, {258, 256}, {386, 128},
            {450, 64}}) {
            VolumeMaker v = described(s[0], s[1]);
            check.same("its blocks", v.count(v.groups - 1), 1);
            Volumes.judge(check, s[0] + " blocks, " + s[1] + " in a group", 2, v);
        }
    }

    /** Where it could not be seen from the second block, as that would be zeros as the descriptors are. */
    static void promise6_fault2_aLastGroupOfOneBlockWhereTheDescriptorsAreZeros(Check check) {
        for (int[] s : new int[][] {{130, 64}, {130, 128}, {258, 256}, {450, 64}}) {
            VolumeMaker v = new VolumeMaker(s[0], s[1], 8);
            v.describe();
            for (int at = 0; at < 1024; at += 8) {
                v.poke(Volumes.DESCRIPTORS + at, 8, 0);
            }
            v.mirror();
            Volumes.judge(check, s[0] + " blocks, " + s[1] + " in a group", 2, v);
        }
    }

    static void promise6_fault2_notWithALastGroupOfTwoBlocks(Check check) {
        for (int[] s : new int[][] {{131, 64}, {131, 128}, {195, 64}, {259, 256}, {387, 128}}) {
            VolumeMaker v = described(s[0], s[1]);
            check.same("its blocks", v.count(v.groups - 1), 2);
            Volumes.judge(check, "with its copies, but no room for its maps", 3, v);
            v.poke(1024 * v.first(v.groups - 1) + 2047, 1, 9);
            Volumes.judge(check, "without the last byte of its copies", 2, v);
        }
    }

    static void promise6_fault2_aVolumeOfOneGroupHasNoCopies(Check check) {
        VolumeMaker v = Volumes.bare().make();
        v.poke(Volumes.SUPER + 1000, 1, 9);
        v.poke(Volumes.DESCRIPTORS + 1000, 1, 9);
        Volumes.judge(check, "one group", 0, v);
    }

    static void promise6_fault2_everyByteOfTheSuperblocksCopy(Check check) {
        for (int at = 0; at < 1024; at++) {
            differs(check, at);
        }
    }

    static void promise6_fault2_everyByteOfTheDescriptorsCopy(Check check) {
        for (int at = 1024; at < 2048; at++) {
            differs(check, at);
        }
    }

    private static void differs(Check check, int at) {
        VolumeMaker v = Volumes.small().make();
        v.poke(COPY + at, 1, v.peek(COPY + at, 1) ^ 1 << at % 8);
        Volumes.judge(check, "the copy's byte " + at, 2, v);
    }

    static void promise6_fault2_aByteThatIsChangedInTheFirstGroupAlone(Check check) {
        for (int at : new int[] {8, 100, 1023, 1024 + 18, 1024 + 1023}) {
            VolumeMaker v = Volumes.small().make();
            v.poke(Volumes.SUPER + at, 1, 5);
            Volumes.judge(check, "byte " + at, 2, v);
        }
    }

    static void promise6_fault2_theCopyHasTheGroupsNumber(Check check) {
        for (int number : new int[] {0, 2, 256, 257, 65535}) {
            VolumeMaker v = Volumes.small().make();
            v.poke(COPY + 90, 2, number);
            Volumes.judge(check, "group 1 with the number " + number, 2, v);
        }
        for (int g = 1; g < 8; g++) {
            VolumeMaker v = Volumes.small(512, 64, 8).make();
            v.poke(1024 * v.first(g) + 90, 2, g - 1);
            Volumes.judge(check, "group " + g + " with the number before", 2, v);
            v.poke(1024 * v.first(g) + 90, 2, g + 1);
            Volumes.judge(check, "group " + g + " with the number behind", 2, v);
            v.poke(1024 * v.first(g) + 90, 2, g);
            Volumes.judge(check, "group " + g + " with its own", 0, v);
        }
    }

    static void promise6_fault2_theDescriptorsCopyHasNoNumber(Check check) {
        VolumeMaker v = Volumes.small().make();
        v.poke(COPY + 1024 + 90, 2, 1);
        Volumes.judge(check, "1 at 90 of the descriptors' copy", 2, v);
    }

    static void promise6_fault2_eachGroupsCopy(Check check) {
        for (int g = 1; g < 8; g++) {
            for (int at : new int[] {0, 1023, 1024, 2047}) {
                VolumeMaker v = Volumes.small(512, 64, 8).make();
                int place = 1024 * v.first(g) + at;
                v.poke(place, 1, v.peek(place, 1) ^ 64);
                Volumes.judge(check, "byte " + at + " of group " + g, 2, v);
            }
        }
    }
}
