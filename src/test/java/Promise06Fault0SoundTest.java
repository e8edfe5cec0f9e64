/** Promise 6: 0 without a fault, and what the document does not name does not count. */
public final class Promise06Fault0SoundTest {
    public static void main(String[] args) {
        Cases.run(Promise06Fault0SoundTest.class);
    }

    static void promise6_sound_theSmallVolume(Check check) {
        Volumes.judge(check, "the small volume", 0, Volumes.small().make());
    }

    static void promise6_sound_theLeastVolume(Check check) {
        Volumes.judge(check, "8 inodes, a root with nothing in it", 0, Volumes.bare().make());
    }

    static void promise6_sound_groupsOfEachSize(Check check) {
        int[][] shapes = {{128, 256, 32}, {256, 256, 64}, {257, 256, 64}, {512, 256, 24}, {129, 128, 24},
            {129, 64, 16}, {256, 128, 80}, {512, 64, 8}, {512, 128, 8}, {135, 64, 16}, {512, 256, 1800}, {385, 128, 32}};
        for (int[] s : shapes) {
            Volumes.judge(check, s[0] + " blocks, " + s[1] + " in a group, " + s[2] + " inodes", 0,
                    Volumes.small(s[0], s[1], s[2]).make());
        }
    }

    /** A last group of less than 5 blocks has no room for what is fixed. */
    static void promise6_sound_everyNumberOfBlocks(Check check) {
        for (int perGroup = 64; perGroup <= 256; perGroup *= 2) {
            for (int blocks = 128; blocks <= 512; blocks++) {
                VolumeMaker v = new VolumeMaker(blocks, perGroup, 8);
                if (v.roomy()) {
                    Volumes.judge(check, blocks + " blocks, " + perGroup + " in a group", 0, v.make());
                }
            }
        }
    }

    static void promise6_sound_everyNumberOfInodes(Check check) {
        for (int inodes = 8; inodes <= 8 * 251; inodes += 8) {
            Volumes.judge(check, inodes + " inodes in a group", 0, new VolumeMaker(512, 256, inodes).make());
        }
    }

    static void promise6_sound_everyBlockIsUsed(Check check) {
        VolumeMaker v = Volumes.full();
        check.same("free blocks", v.freeBlocks(), 0);
        Volumes.judge(check, "two groups, full", 0, v);
        v = Volumes.bare();
        v.file(v.root, "all", 3, 120 * 1024).blank = true;
        v.make();
        check.same("free blocks of one group", v.freeBlocks(), 0);
        Volumes.judge(check, "one group, full", 0, v);
    }

    static void promise6_sound_everyInodeIsUsed(Check check) {
        VolumeMaker v = new VolumeMaker(128, 64, 16);
        for (int i = 12; i <= 32; i++) {
            v.file(v.root, "" + i, i, 0);
        }
        v.make();
        check.same("free inodes", v.peek(Volumes.SUPER + 16, 4), 0);
        Volumes.judge(check, "no inode is free", 0, v);
    }

    /** Inode i is number (i - 1) % G of group (i - 1) / G: the last of a group, and the first of the next one. */
    static void promise6_sound_inodesAtTheEdgesOfGroups(Check check) {
        Volumes.expectMade(check, "inodes 16, 17 and 32 of 16 in a group", 0, v -> {
            v.file(v.root, "last", 16, 2000);
            v.directory(v.root, "first", 17);
            v.file(v.root, "last of all", 32, 1);
        });
        VolumeMaker v = new VolumeMaker(512, 64, 8);
        for (int g = 2; g < 8; g++) {
            v.file(v.root, "first", 8 * g + 1, 1);
            v.directory(v.root, "last", 8 * g + 8);
        }
        Volumes.judge(check, "the first and the last of groups of 8", 0, v.make());
    }

    static void promise6_sound_aReservedInodeMayComeUp(Check check) {
        Volumes.expectMade(check, "inodes 1, 5 and 11", 0, v -> {
            v.file(v.root, "five", 5, 2000);
            v.directory(v.root, "one", 1);
        });
    }

    static void promise6_sound_twoItemsOfOneName(Check check) {
        Volumes.expectMade(check, "two of one name", 0, v -> v.file(v.root, "a", 16, 10));
    }

    static void promise6_sound_otherBytesOfTheSuperblock(Check check) {
        Volumes.expect(check, "what the document does not name", 0, v -> {
            for (int at : new int[] {8, 28, 44, 48, 52, 60, 64, 68, 72, 80, 92, 100, 104, 1020}) {
                v.poke(Volumes.SUPER + at, 4, 0x01020304 + at);
            }
        });
    }

    static void promise6_sound_otherBytesOfTheDescriptors(Check check) {
        Volumes.expect(check, "what the document does not name", 0, v -> {
            v.poke(Volumes.DESCRIPTORS + 18, 8, -1);
            v.poke(Volumes.DESCRIPTORS + 26, 6, -1);
            v.poke(Volumes.DESCRIPTORS + 32 + 18, 8, -1);
            v.poke(Volumes.DESCRIPTORS + 64, 8, -1);
            v.poke(3071, 1, 7);
        });
    }

    static void promise6_sound_otherBytesOfAnInode(Check check) {
        for (int inode : new int[] {2, 11, 12, 14, 15, 20}) {
            Volumes.expect(check, "what the document does not name in inode " + inode, 0, v -> {
                int at = v.inodePlace(inode);
                v.poke(at, 2, v.peek(at, 2) | 4095);
                v.poke(at + 2, 2, 77);
                v.poke(at + 8, 8, -1);
                v.poke(at + 16, 8, -1);
                v.poke(at + 24, 2, 3);
                v.poke(at + 32, 8, -1);
                for (int i = 100; i < 128; i += 4) {
                    v.poke(at + i, 4, -1);
                }
            });
        }
    }

    static void promise6_sound_bytesOfBlock0AndOfFreeBlocks(Check check) {
        Volumes.expect(check, "blocks that nobody has", 0, v -> {
            v.poke(0, 8, -1);
            v.poke(1016, 8, -1);
            v.poke(1024 * 127 + 1016, 8, -1);
        });
    }

    /** The fault is looked for anew behind each change, and only by what stands there then. */
    static void promise6_sound_behindAFaultThatIsMended(Check check) {
        VolumeMaker v = Volumes.small().make();
        InodeVolumes x = v.load();
        int links = v.inodePlace(12) + 26;
        for (int round = 0; round < 8; round++) {
            check.same("sound again", x.fault(), 0);
            check.same("a put", x.put(links, 2, 2), true);
            check.same("behind the put", x.fault(), 6);
            check.same("a refused put", x.put(links, 9, 1), false);
            check.same("behind the refused put", x.fault(), 6);
            check.same("put back", x.fill(links, 1, 1), true);
            check.same("sound behind the fill", x.fault(), 0);
            check.same("a copy", x.copy(1024, 2048, 1024), true);
            check.same("behind the copy", x.fault(), 2);
            check.same("copied back", x.copy(1024 * 66, 2048, 1024), true);
        }
    }

    /** The volume before had more directories, files and blocks in it. */
    static void promise6_sound_behindAVolumeWithMoreInIt(Check check) {
        VolumeMaker more = new VolumeMaker(128, 64, 16);
        for (int i = 0; i < 6; i++) {
            more.directory(more.root, "d" + i, 12 + i);
        }
        more.make();
        VolumeMaker less = new VolumeMaker(128, 64, 16).make();
        InodeVolumes x = more.load();
        check.same("with 6 directories", x.fault(), 0);
        Volumes.carry(x, less.image, more.image);
        check.same("with none", x.fault(), 0);
        check.same("items", x.items(), 0);
        Volumes.carry(x, more.image, less.image);
        check.same("with 6 again", x.fault(), 0);
        check.same("items", x.items(), 6);
    }

    /** The directory that came last before comes earlier now, in another one, and fewer come. */
    static void promise6_sound_behindAVolumeWithOtherParents(Check check) {
        VolumeMaker one = new VolumeMaker(128, 64, 16);
        VolumeMaker.Node first = one.directory(one.root, "first", 12);
        one.directory(one.root, "second", 13);
        one.directory(first, "third", 14);
        one.make();
        VolumeMaker other = new VolumeMaker(128, 64, 16);
        other.directory(other.root, "third", 14);
        other.directory(other.root, "first", 12);
        other.make();
        InodeVolumes x = one.load();
        for (int round = 0; round < 2; round++) {
            check.same("the one", x.fault(), 0);
            Volumes.carry(x, other.image, one.image);
            check.same("the other", x.fault(), 0);
            Volumes.carry(x, one.image, other.image);
        }
    }

    static void promise6_sound_askingLeavesHereAlone(Check check) {
        InodeVolumes x = Volumes.inSub();
        check.same("fault", x.fault(), 0);
        check.yes("HERE is sub", Volumes.isInSub(x));
    }
}
