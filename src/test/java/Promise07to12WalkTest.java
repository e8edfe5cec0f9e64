import java.util.Random;

/** Promises 7 to 12: everything that stands in a sound volume, asked for on a walk through all of it. */
public final class Promise07to12WalkTest {
    public static void main(String[] args) {
        Cases.run(Promise07to12WalkTest.class);
    }

    static void promise7to12_theSmallVolume(Check check) {
        walkAll(check, Volumes.small().make());
    }

    /** "." alone in its block, empty entries, names and directories of many blocks, blocks anywhere. */
    static void promise7to12_aVolumeOfOddThings(Check check) {
        VolumeMaker v = new VolumeMaker(300, 128, 40);
        v.any = new Random(5);
        v.root.dotAlone = true;
        v.root.gaps = true;
        v.file(v.root, "x".repeat(255), 33, 1);
        VolumeMaker.Node d = v.directory(v.root, "" + (char) 255 + (char) 1 + " ", 120);
        d.leastBlocks = 13;
        d.time = 0x80000001L;
        for (int i = 0; i < 20; i++) {
            VolumeMaker.Node f = v.file(d, "y".repeat(200 + i), 50 + i, 100 * i);
            f.time = 4294967295L - i;
        }
        v.directory(d, "...", 119).gaps = true;
        walkAll(check, v.make());
    }

    /** Bytes beside those that are asked for, in inodes and in entries. */
    static void promise7to12_otherBytesDoNotCount(Check check) {
        VolumeMaker v = Volumes.small().make();
        for (int inode : new int[] {2, 11, 12, 13, 14, 15, 20}) {
            int at = v.inodePlace(inode);
            v.poke(at, 2, v.peek(at, 2) | 4095);
            v.poke(at + 2, 2, -1);
            v.poke(at + 8, 8, -1);
            v.poke(at + 20, 6, -1);
            v.poke(at + 32, 8, -1);
            v.poke(at + 100, 8, -1);
        }
        v.poke(v.entryPlace(v.root, Volumes.A) + 9, 3, -1);
        walkAll(check, v);
    }

    static void promise7to12_filesWithADoublyIndirectBlock(Check check) {
        for (int blocks : new int[] {268, 269, 480}) {
            VolumeMaker v = new VolumeMaker(512, 256, 16);
            v.any = new Random(blocks);
            v.file(v.root, "zero", 12, 0);
            v.file(v.root, "large", 13, 1024 * blocks - 1023).blank = true;
            walkAll(check, v.make());
        }
        walkAll(check, Volumes.full());
    }

    static void promise7to12_volumesByChance(Check check) {
        Random random = new Random(77);
        int walked = 0;
        for (int run = 0; run < 100; run++) {
            VolumeMaker v = Promise06ByChanceTest.anyVolume(random);
            if (v != null && Promise06ByChanceTest.isThrifty(v)) {
                walkAll(check, v);
                walked++;
            }
        }
        check.yes("volumes walked through: " + walked, walked >= 20);
    }

    private static void walkAll(Check check, VolumeMaker v) {
        Renewed x = new Renewed(v);
        check.same("fault", x.fault(), 0);
        walk(check, x, v, v.root);
        check.same("at the root again", x.up(), false);
    }

    private static void walk(Check check, Renewed x, VolumeMaker v, VolumeMaker.Node here) {
        check.same("items", x.items(), here.inside.size());
        for (int k = 0; k < here.inside.size(); k++) {
            VolumeMaker.Node n = here.inside.get(k);
            ask(check, x, v, k, n);
            int item = k;
            if (n.directory) {
                check.same("enter", x.enter(k), n.inside.size());
                walk(check, x, v, n);
                check.same("up", x.up(), true);
                check.same("items behind up", x.items(), here.inside.size());
                check.same("the same item behind up", x.about(k, 0), n.inode);
            } else {
                check.raises("enter a file", Volumes.ARGUMENT, () -> x.enter(item));
                check.same("still here", x.items(), here.inside.size());
            }
        }
        askOutside(check, x, here.inside.size());
    }

    private static void askOutside(Check check, Renewed x, int n) {
        for (int k : new int[] {-1, n, n + 1, Integer.MIN_VALUE, Integer.MAX_VALUE}) {
            check.raises("letter of " + k, Volumes.BOUNDS, () -> x.letter(k, 0));
            check.raises("about " + k, Volumes.BOUNDS, () -> x.about(k, 0));
            check.raises("content of " + k, Volumes.BOUNDS, () -> x.content(k, 0));
            check.raises("enter " + k, Volumes.BOUNDS, () -> x.enter(k));
        }
    }

    private static int due(VolumeMaker v, VolumeMaker.Node n, int at) {
        return v.image[1024 * n.blocks.get(at / 1024) + at % 1024] & 255;
    }

    private static void ask(Check check, Renewed x, VolumeMaker v, int k, VolumeMaker.Node n) {
        for (int i = 0; i < n.name.length; i++) {
            check.same("letter " + i, x.letter(k, i), n.name[i] & 255);
        }
        check.same("letter behind the end", x.letter(k, n.name.length), InodeVolumes.NONE);
        int last = n.blocks.isEmpty() ? 0 : n.blocks.get(n.blocks.size() - 1);
        long[] about = {n.inode, n.directory ? 1 : 0, n.size, n.due(), n.time, last};
        for (int what = 0; what < about.length; what++) {
            check.same("about " + what, x.about(k, what), about[what]);
        }
        int step = n.size > 20000 ? 509 : n.directory ? 1 : 17;
        for (int at = 0; at < n.size; at += step) {
            check.same("content " + at, x.content(k, at), due(v, n, at));
        }
        if (n.size > 0) {
            check.same("last content", x.content(k, n.size - 1), due(v, n, n.size - 1));
        }
        check.same("content behind the end", x.content(k, n.size), InodeVolumes.NONE);
    }
}
