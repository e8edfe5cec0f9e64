import java.util.Random;

/** Promise 10: content. */
public final class Promise10ContentTest {
    public static void main(String[] args) {
        Cases.run(Promise10ContentTest.class);
    }

    private static int due(VolumeMaker v, VolumeMaker.Node n, int at) {
        return v.image[1024 * n.blocks.get(at / 1024) + at % 1024] & 255;
    }

    /** A volume whose only item is a file of zeros, its blocks anywhere. */
    private static VolumeMaker withFile(int size) {
        VolumeMaker v = new VolumeMaker(512, 256, 16);
        v.any = new Random(size);
        v.file(v.root, "f", 12, size).blank = true;
        return v.make();
    }

    /** The file's byte, and those beside it, become numbers that tell them apart. */
    private static void mark(VolumeMaker v, int at) {
        VolumeMaker.Node f = Volumes.inside(v.root, 0);
        for (int i = Math.max(0, at - 1); i <= at + 1 && i / 1024 < f.blocks.size(); i++) {
            v.image[1024 * f.blocks.get(i / 1024) + i % 1024] = (byte) (i + 3 * (i / 251) + 1);
        }
    }

    static void promise10_everyByteOfAFile(Check check) {
        VolumeMaker v = withFile(2500);
        for (int at = 0; at < 2500; at++) {
            mark(v, at);
        }
        VolumeMaker.Node f = Volumes.inside(v.root, 0);
        Renewed x = new Renewed(v);
        for (int at = 0; at < 2500; at++) {
            check.same("byte " + at, x.content(0, at), due(v, f, at));
        }
    }

    static void promise10_theFirstAndLastByteOfEachBlock(Check check) {
        for (int from = 0; from < 480; from += 40) {
            VolumeMaker v = withFile(480 * 1024);
            for (int block = from; block < from + 40; block++) {
                mark(v, 1024 * block);
                mark(v, 1024 * block + 1023);
            }
            VolumeMaker.Node f = Volumes.inside(v.root, 0);
            Renewed x = new Renewed(v);
            for (int block = from; block < from + 40; block++) {
                check.same("first byte of " + block, x.content(0, 1024 * block), due(v, f, 1024 * block));
                check.same("last byte of " + block, x.content(0, 1024 * block + 1023), due(v, f, 1024 * block + 1023));
            }
        }
    }

    /** Where the 12 pointers end, where the indirect block's end, and at the end of the greatest file. */
    static void promise10_theLastByteAndNoneBehindIt(Check check) {
        for (int blocks : new int[] {1, 2, 11, 12, 13, 267, 268, 269, 480}) {
            for (int size : new int[] {1024 * (blocks - 1) + 1, 1024 * blocks - 1, 1024 * blocks}) {
                VolumeMaker v = withFile(size);
                mark(v, size - 1);
                mark(v, size);
                Renewed x = new Renewed(v);
                check.same("last byte of " + size, x.content(0, size - 1), due(v, Volumes.inside(v.root, 0), size - 1));
                check.same("behind " + size, x.content(0, size), InodeVolumes.NONE);
            }
        }
    }

    /** The last block is full of bytes, but those behind the size are not the file's. */
    static void promise10_noneInTheRestOfTheLastBlock(Check check) {
        Renewed x = new Renewed(Volumes.small().make());
        check.yes("the file's last byte is not 0", x.content(Volumes.A, 1499) > 0);
        for (int at = 1500; at < 2050; at++) {
            check.same("byte " + at, x.content(Volumes.A, at), InodeVolumes.NONE);
        }
    }

    static void promise10_noneBeforeTheFirstByte(Check check) {
        InodeVolumes x = Volumes.small().make().load();
        for (int k = 0; k < 4; k++) {
            for (int at : new int[] {-1, -2, -1023, -1024, -1025, Integer.MIN_VALUE, Integer.MIN_VALUE + 1}) {
                check.same("byte " + at + " of item " + k, x.content(k, at), InodeVolumes.NONE);
            }
        }
    }

    static void promise10_noneFarBehindTheLastByte(Check check) {
        InodeVolumes x = Volumes.small().make().load();
        for (int k = 0; k < 4; k++) {
            for (int at : new int[] {2048, 4096, 13 * 1024, 268 * 1024, 269 * 1024, 524 * 1024, 70000 * 1024,
                Integer.MAX_VALUE - 1, Integer.MAX_VALUE}) {
                check.same("byte " + at + " of item " + k, x.content(k, at), InodeVolumes.NONE);
            }
        }
    }

    static void promise10_noneInAFileOfNoSize(Check check) {
        InodeVolumes x = Volumes.small().make().load();
        for (int at : new int[] {0, 1, 1023, 1024}) {
            check.same("byte " + at, x.content(Volumes.EMPTY_FILE, at), InodeVolumes.NONE);
        }
    }

    static void promise10_theByte255IsNotNone(Check check) {
        VolumeMaker v = Volumes.small().make();
        v.poke(1024 * Volumes.inside(v.root, Volumes.A).blocks.get(0) + 7, 2, 0xFF00);
        InodeVolumes x = v.load();
        check.same("a byte 0", x.content(Volumes.A, 7), 0);
        check.same("a byte 255", x.content(Volumes.A, 8), 255);
    }

    /** A directory's bytes are its entries. */
    static void promise10_everyByteOfADirectory(Check check) {
        VolumeMaker v = Volumes.small().make();
        Renewed x = new Renewed(v);
        for (int k : new int[] {Volumes.LOST, Volumes.SUB}) {
            VolumeMaker.Node d = Volumes.inside(v.root, k);
            for (int at = 0; at < d.size; at++) {
                check.same("byte " + at + " of item " + k, x.content(k, at), due(v, d, at));
            }
            check.same("behind item " + k, x.content(k, d.size), InodeVolumes.NONE);
        }
        int[] dot = {20, 0, 0, 0, 12, 0, 1, 2, '.'};
        for (int i = 0; i < dot.length; i++) {
            check.same("sub's '.', byte " + i, x.content(Volumes.SUB, i), dot[i]);
        }
    }

    static void promise10_throwsForNoItem(Check check) {
        InodeVolumes x = Volumes.small().make().load();
        for (int k : new int[] {-1, -2, 4, 5, Integer.MIN_VALUE, Integer.MAX_VALUE}) {
            for (int at : new int[] {0, -1, Integer.MAX_VALUE}) {
                check.raises("byte " + at + " of item " + k, Volumes.BOUNDS, () -> x.content(k, at));
            }
        }
    }

    static void promise10_throwsInADirectoryWithoutItems(Check check) {
        InodeVolumes x = Volumes.bare().make().load();
        check.raises("byte 0 of item 0", Volumes.BOUNDS, () -> x.content(0, 0));
    }

    static void promise10_throwsWithAFault(Check check) {
        for (InodeVolumes x : Volumes.unsound()) {
            for (int k : new int[] {0, -1, 1000}) {
                for (int at : new int[] {0, -1, 1 << 30}) {
                    check.raises("fault " + x.fault(), Volumes.STATE, () -> x.content(k, at));
                }
            }
        }
    }

    static void promise10_leavesHereAlone(Check check) {
        InodeVolumes x = Volumes.inSub();
        x.content(Volumes.DEEP, 0);
        check.raises("item 2", Volumes.BOUNDS, () -> x.content(2, 0));
        check.yes("HERE is sub", Volumes.isInSub(x));
    }
}
