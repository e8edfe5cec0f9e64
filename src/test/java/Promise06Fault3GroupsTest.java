/** Promise 6, fault 3: what is fixed in each group. */
public final class Promise06Fault3GroupsTest {
    public static void main(String[] args) {
        Cases.run(Promise06Fault3GroupsTest.class);
    }

    private static void setMaps(VolumeMaker v, int g, long m) {
        int at = Volumes.DESCRIPTORS + 32 * g;
        v.poke(at, 4, m);
        v.poke(at + 4, 4, m + 1);
        v.poke(at + 8, 4, m + 2);
    }

    private static void mapsAt(Check check, int g, long m, int due) {
        Volumes.expect(check, "group " + g + " with its maps at " + m, due, v -> setMaps(v, g, m));
    }

    static void promise6_fault3_theInodeMapIsBehindTheBlockMap(Check check) {
        for (int g = 0; g < 2; g++) {
            int at = Volumes.DESCRIPTORS + 32 * g + 4;
            int m = 3 + 64 * g;
            for (long map : new long[] {0, m - 1, m, m + 2, m + 30, m + 1 + (1 << 16), m + 1 + (1 << 24), m + 1 + (1L << 31),
                0xFFFFFFFFL}) {
                Volumes.expect(check, "the inode map of group " + g + " at " + map, 3, v -> v.poke(at, 4, map));
            }
        }
    }

    static void promise6_fault3_theInodesAreBehindTheInodeMap(Check check) {
        for (int g = 0; g < 2; g++) {
            int at = Volumes.DESCRIPTORS + 32 * g + 8;
            int m = 3 + 64 * g;
            for (long first : new long[] {0, m, m + 1, m + 3, m + 30, m + 2 + (1 << 16), m + 2 + (1 << 24), m + 2 + (1L << 31),
                0xFFFFFFFFL}) {
                Volumes.expect(check, "the inodes of group " + g + " at " + first, 3, v -> v.poke(at, 4, first));
            }
        }
    }

    static void promise6_fault3_theBlockMapIsBehindTheGroupsFirstBlock(Check check) {
        for (int g = 0; g < 2; g++) {
            int first = 1 + 64 * g;
            mapsAt(check, g, 0, 3);
            mapsAt(check, g, first - 1, 3);
            mapsAt(check, g, first, 3);
        }
    }

    static void promise6_fault3_theDescriptorsBlockIsNotFixedTwice(Check check) {
        mapsAt(check, 0, 2, 3);
        mapsAt(check, 1, 66, 3);
    }

    static void promise6_fault3_theBlockMapAloneIsElsewhere(Check check) {
        for (int g = 0; g < 2; g++) {
            int at = Volumes.DESCRIPTORS + 32 * g;
            int m = 3 + 64 * g;
            for (long map : new long[] {0, m - 1, m + 1, m + 30, m + (1 << 16), m + (1 << 24), m + (1L << 31)}) {
                Volumes.expect(check, "the block map of group " + g + " at " + map, 3, v -> v.poke(at, 4, map));
            }
        }
    }

    static void promise6_fault3_notRightBehindTheDescriptors(Check check) {
        mapsAt(check, 0, 3, 0);
        mapsAt(check, 1, 67, 0);
    }

    static void promise6_fault3_notUpToTheGroupsEnd(Check check) {
        Volumes.expectMade(check, "maps and inodes up to the groups' ends", 0, v -> {
            v.map[0] = 65 - 4;
            v.map[1] = 128 - 4;
        });
        mapsAt(check, 0, 65 - 4, 4);
    }

    static void promise6_fault3_overTheGroupsEnd(Check check) {
        for (int over = 1; over <= 4; over++) {
            mapsAt(check, 0, 65 - 4 + over, 3);
            mapsAt(check, 1, 128 - 4 + over, 3);
        }
    }

    static void promise6_fault3_inAnotherGroup(Check check) {
        mapsAt(check, 0, 67, 3);
        mapsAt(check, 0, 90, 3);
        mapsAt(check, 1, 3, 3);
        mapsAt(check, 1, 30, 3);
    }

    static void promise6_fault3_offTheDisk(Check check) {
        for (int g = 0; g < 2; g++) {
            for (long m : new long[] {128, 129, 200, 512, 65536, 0x7FFFFFFFL, 0x80000000L, 0x80000003L, 0xFFFFFFFDL,
                0xFFFFFFFEL, 0xFFFFFFFFL}) {
                mapsAt(check, g, m, 3);
            }
        }
    }

    /** 4 blocks and J of inodes are all that the group has; with one block of inodes more it has too few. */
    static void promise6_fault3_asManyInodesAsTheGroupHasRoomFor(Check check) {
        VolumeMaker v = new VolumeMaker(129, 64, 8 * 60);
        v.describe();
        v.mirror();
        Volumes.judge(check, "groups that are full of inodes", 4, v);
        v = new VolumeMaker(129, 64, 8 * 61);
        v.describe();
        v.mirror();
        Volumes.judge(check, "one block of inodes more", 3, v);
        v = new VolumeMaker(128, 64, 8 * 60);
        v.describe();
        v.mirror();
        Volumes.judge(check, "a last group with a block less", 3, v);
    }

    static void promise6_fault3_aLastGroupOfJustEnoughBlocks(Check check) {
        Volumes.judge(check, "a last group of 5 blocks", 0, new VolumeMaker(134, 64, 8).make());
        for (int blocks = 131; blocks < 134; blocks++) {
            VolumeMaker v = new VolumeMaker(blocks, 64, 8);
            v.describe();
            v.mirror();
            Volumes.judge(check, "a last group of " + (blocks - 129), 3, v);
        }
    }

    static void promise6_fault3_inTheLastOfEightGroups(Check check) {
        for (int g = 0; g < 8; g++) {
            VolumeMaker v = Volumes.small(512, 64, 8).make();
            int at = Volumes.DESCRIPTORS + 32 * g + 4;
            v.poke(at, 4, v.peek(at, 4) + 1);
            v.mirror();
            Volumes.judge(check, "the inode map of group " + g, 3, v);
        }
    }

    static void promise6_fault3_noDescriptors(Check check) {
        Volumes.expect(check, "descriptors of zeros", 3, v -> {
            for (int at = 0; at < 64; at += 8) {
                v.poke(Volumes.DESCRIPTORS + at, 8, 0);
            }
        });
    }
}
