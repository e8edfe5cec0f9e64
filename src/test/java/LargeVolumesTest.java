import java.util.Random;

/**
 * Volumes that take more calls than an object is promised to be used for. The class does not count its calls, and its
 * rows must have room for all that a disk can hold, so that it answers here as everywhere.
 */
public final class LargeVolumesTest {
    public static void main(String[] args) {
        Cases.run(LargeVolumesTest.class);
    }

    /** Far more items than blocks, since files of no size have none. */
    private static VolumeMaker crowded() {
        VolumeMaker v = new VolumeMaker(512, 256, 1600);
        for (int i = 12; i <= 3200; i++) {
            v.file(v.root, "" + i, i, 0);
        }
        return v.make();
    }

    static void promises6to9_thousandsOfFiles(Check check) {
        VolumeMaker v = crowded();
        InodeVolumes x = v.load();
        check.same("fault", x.fault(), 0);
        check.same("by the reference", Reference.fault(v.image), 0);
        check.same("items", x.items(), 3189);
        check.same("the last one", x.about(3188, 0), 3200);
        check.same("its name", x.letter(3188, 1), '2');
        check.raises("behind the last one", Volumes.BOUNDS, () -> x.about(3189, 0));
    }

    static void promise6_thousandsOfDirectoriesOfNoSize(Check check) {
        VolumeMaker v = crowded();
        for (int k = 0; k < 3189; k++) {
            v.poke(v.inodePlace(12 + k), 2, 16384);
            v.poke(v.entryPlace(v.root, k) + 7, 1, 2);
        }
        check.same("fault", v.load().fault(), 5);
        check.same("by the reference", Reference.fault(v.image), 5);
    }

    /** As many inodes as there can be, and an entry in the root for the last one. */
    static void promise6_asManyInodesAsADiskHolds(Check check) {
        VolumeMaker v = new VolumeMaker(512, 256, 8 * 251);
        v.file(v.root, "last", 2 * 8 * 251, 0);
        v.make();
        check.same("fault", v.load().fault(), 0);
        check.same("the last inode", v.load().about(0, 0), 4016);
        v.poke(v.inodePlace(4015) + 127, 1, 1);
        check.same("a byte of the one before it", v.load().fault(), 7);
    }

    /** A root of as many blocks as there are, full of the shortest entries. */
    static void promises6and7_tensOfThousandsOfEmptyEntries(Check check) {
        VolumeMaker v = new VolumeMaker(512, 256, 8);
        v.root.leastBlocks = 498;
        v.make();
        check.same("free blocks", v.freeBlocks(), 0);
        for (int i = 1; i < 498; i++) {
            int block = 1024 * v.root.blocks.get(i);
            for (int at = 0; at < 1020; at += 12) {
                v.poke(block + at + 4, 2, at == 1008 ? 16 : 12);
            }
        }
        InodeVolumes x = v.load();
        check.same("fault", x.fault(), 0);
        check.same("by the reference", Reference.fault(v.image), 0);
        check.same("items", x.items(), 0);
        check.raises("item 0", Volumes.BOUNDS, () -> x.about(0, 0));
    }

    /** Links, and a group's directories, of more than a byte. */
    static void promises6and9_hundredsOfDirectoriesInOne(Check check) {
        VolumeMaker v = new VolumeMaker(512, 256, 400);
        VolumeMaker.Node top = v.directory(v.root, "top", 12);
        for (int i = 0; i < 300; i++) {
            v.directory(top, "d" + i, 20 + i);
        }
        InodeVolumes x = v.make().load();
        check.same("fault", x.fault(), 0);
        check.same("by the reference", Reference.fault(v.image), 0);
        check.same("links", x.about(0, 3), 302);
        check.same("items", x.enter(0), 300);
        int second = v.inodePlace(12) + 27;
        check.same("the links' second byte", x.put(second, 1, 0), true);
        check.same("46 links", x.fault(), 6);
    }

    static void promises6to12_hundredsOfLevels(Check check) {
        VolumeMaker v = new VolumeMaker(512, 256, 256);
        VolumeMaker.Node n = v.root;
        for (int i = 0; i < 430; i++) {
            n = v.directory(n, "d", 500 - i);
        }
        InodeVolumes x = v.make().load();
        check.same("fault", x.fault(), 0);
        check.same("by the reference", Reference.fault(v.image), 0);
        for (int i = 0; i < 430; i++) {
            check.same("inode of level " + i, x.about(0, 0), 500 - i);
            check.same("enter level " + i, x.enter(0), i < 429 ? 1 : 0);
        }
        for (int i = 0; i < 430; i++) {
            check.same("up " + i, x.up(), true);
        }
        check.same("up from the root", x.up(), false);
    }

    /** One object with one volume behind another, and a change of each: nothing may be left of those before. */
    static void promise6_manyVolumesInOneObject(Check check) {
        Random random = new Random(78);
        InodeVolumes x = new InodeVolumes(320);
        byte[] before = new byte[320 * 1024];
        for (int run = 0; run < 200; run++) {
            VolumeMaker v = Promise06ByChanceTest.anyVolume(random, 320);
            if (v != null) {
                Volumes.carry(x, v.image, before);
                check.same("run " + run, x.fault(), 0);
                check.same("items of run " + run, x.items(), v.root.inside.size());
                before = v.image.clone();
                Promise06ByChanceTest.change(v, random);
                Volumes.carry(x, v.image, before);
                check.same("run " + run + ", changed", x.fault(), Reference.fault(v.image));
                before = v.image;
            }
        }
    }
}
