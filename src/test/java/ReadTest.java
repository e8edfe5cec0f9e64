import java.util.Random;

/** Promises 7 to 12: what stands in a sound volume, from the directory HERE. */
public final class ReadTest {
    private static final Check check = new Check("ReadTest");
    private static final Class<IllegalStateException> STATE = IllegalStateException.class;
    private static final Class<IndexOutOfBoundsException> BOUNDS = IndexOutOfBoundsException.class;
    private static final Class<IllegalArgumentException> ARGUMENT = IllegalArgumentException.class;

    public static void main(String[] args) {
        whole(FaultTest.small().make());
        whole(odd().make());
        whole(dressed());
        whole(large(269).make());
        whole(large(480).make());
        bare();
        unsound();
        wrongArguments();
        hereAgain();
        deep();
        randomWalks();
        check.end();
    }

    private static VolumeMaker odd() {
        VolumeMaker v = new VolumeMaker(300, 128, 40);
        v.any = new Random(5);
        v.root.dotAlone = true;
        v.root.gaps = true;
        v.file(v.root, "x".repeat(255), 33, 1);
        VolumeMaker.Node d = v.directory(v.root, "" + (char) 255 + (char) 1 + " ", 120);
        d.leastBlocks = 13;
        d.time = 0x80000001L;
        for (int i = 0; i < 25; i++) {
            VolumeMaker.Node f = v.file(d, "y".repeat(200 + i), 50 + i, 100 * i);
            f.time = 4294967295L - i;
        }
        v.directory(d, "...", 119).gaps = true;
        return v;
    }

    /** Bytes beside those that are asked for, in inodes and in entries. */
    private static VolumeMaker dressed() {
        VolumeMaker v = FaultTest.small().make();
        for (int inode : new int[] {2, 11, 12, 13, 14, 15, 20}) {
            int at = v.inodePlace(inode);
            v.poke(at, 2, v.peek(at, 2) | 4095);
            v.poke(at + 2, 2, -1);
            v.poke(at + 8, 8, -1);
            v.poke(at + 20, 6, -1);
            v.poke(at + 32, 8, -1);
            v.poke(at + 100, 8, -1);
        }
        v.poke(v.entryPlace(v.root, 1) + 9, 3, -1);
        return v;
    }

    private static VolumeMaker large(int blocks) {
        VolumeMaker v = new VolumeMaker(512, 256, 16);
        v.any = new Random(blocks);
        v.file(v.root, "zero", 12, 0);
        v.file(v.root, "large", 13, 1024 * blocks - 1023);
        return v;
    }

    /** Every answer about everything in the volume. */
    private static void whole(VolumeMaker v) {
        whole(v.load(), v);
    }

    private static void whole(InodeVolumes x, VolumeMaker v) {
        check.same("fault", x.fault(), 0);
        walk(x, v, v.root);
        check.same("at the root again", x.up(), false);
    }

    private static void walk(InodeVolumes x, VolumeMaker v, VolumeMaker.Node here) {
        check.same("items", x.items(), here.inside.size());
        for (int k = 0; k < here.inside.size(); k++) {
            VolumeMaker.Node n = here.inside.get(k);
            item(x, v, k, n);
            int item = k;
            if (n.directory) {
                check.same("enter", x.enter(k), n.inside.size());
                walk(x, v, n);
                check.same("up", x.up(), true);
                check.same("items behind up", x.items(), here.inside.size());
                check.same("the same item behind up", x.about(k, 0), n.inode);
            } else {
                check.raises("enter a file", ARGUMENT, () -> x.enter(item));
                check.same("still here", x.items(), here.inside.size());
            }
        }
        outside(x, here.inside.size());
    }

    private static void outside(InodeVolumes x, int n) {
        for (int k : new int[] {-1, n, n + 1, Integer.MIN_VALUE, Integer.MAX_VALUE}) {
            check.raises("letter of " + k, BOUNDS, () -> x.letter(k, 0));
            check.raises("about " + k, BOUNDS, () -> x.about(k, 0));
            check.raises("about " + k + ", wrongly", BOUNDS, () -> x.about(k, 6));
            check.raises("content of " + k, BOUNDS, () -> x.content(k, 0));
            check.raises("content of " + k + ", wrongly", BOUNDS, () -> x.content(k, -1));
            check.raises("enter " + k, BOUNDS, () -> x.enter(k));
        }
    }

    private static void item(InodeVolumes x, VolumeMaker v, int k, VolumeMaker.Node n) {
        for (int i = 0; i < n.name.length; i++) {
            check.same("letter " + i, x.letter(k, i), n.name[i] & 255);
        }
        for (int i : new int[] {0, 1, 2, 3, 255, 1024, Integer.MAX_VALUE - n.name.length}) {
            check.same("letter behind the end", x.letter(k, n.name.length + i), InodeVolumes.NONE);
        }
        check.raises("letter -1", BOUNDS, () -> x.letter(k, -1));
        check.raises("the least letter", BOUNDS, () -> x.letter(k, Integer.MIN_VALUE));
        int last = n.blocks.isEmpty() ? 0 : n.blocks.get(n.blocks.size() - 1);
        check.same("inode", x.about(k, 0), n.inode);
        check.same("directory", x.about(k, 1), n.directory ? 1 : 0);
        check.same("size", x.about(k, 2), n.size);
        check.same("links", x.about(k, 3), n.due());
        check.same("time", x.about(k, 4), n.time);
        check.same("last block", x.about(k, 5), last);
        for (int what : new int[] {-1, 6, Integer.MIN_VALUE, Integer.MAX_VALUE}) {
            check.raises("about " + what, ARGUMENT, () -> x.about(k, what));
        }
        int step = n.size > 20000 ? 509 : n.directory ? 1 : 17;
        for (int at = 0; at < n.size; at += step) {
            check.same("content " + at, x.content(k, at), v.image[1024 * n.blocks.get(at / 1024) + at % 1024] & 255);
        }
        if (n.size > 0) {
            int at = n.size - 1;
            check.same("last content", x.content(k, at), v.image[1024 * n.blocks.get(at / 1024) + at % 1024] & 255);
        }
        for (int at : new int[] {-1, n.size, n.size + 1, n.size + 1023, Integer.MIN_VALUE, Integer.MAX_VALUE}) {
            check.same("content " + at, x.content(k, at), InodeVolumes.NONE);
        }
    }

    private static void bare() {
        InodeVolumes x = new VolumeMaker(128, 256, 8).make().load();
        check.same("items of a bare volume", x.items(), 0);
        check.same("up in a bare volume", x.up(), false);
        outside(x, 0);
    }

    private static void unsound() {
        InodeVolumes empty = new InodeVolumes(128);
        allThrow("a new object", empty);
        VolumeMaker v = FaultTest.small().make();
        int[][] broken = {{1024 + 56, 0}, {1024 * 65, 77}, {2048, 3}, {v.inodePlace(2) + 96, 1},
            {v.entryPlace(v.root, 2) + 7, 1}, {v.inodePlace(12) + 26, 2}, {v.inodePlace(32), 1},
            {1024 * v.map[1] + 1000, 254}};
        for (int f = 0; f < broken.length; f++) {
            InodeVolumes x = v.load();
            check.same("items", x.items(), 4);
            check.same("enter", x.enter(2), 2);
            int at = broken[f][0];
            long was = x.byteAt(at);
            check.same("a change", x.put(at, 1, f == 2 ? 1 : broken[f][1]), true);
            if (f == 2) {
                x.copy(2048, 1024 * 66, 1024);
            }
            check.same("fault", x.fault(), f + 1);
            allThrow("fault " + (f + 1), x);
            x.put(at, 1, was);
            if (f == 2) {
                x.copy(2048, 1024 * 66, 1024);
            }
            check.same("sound again", x.items(), 4);
        }
    }

    private static void allThrow(String what, InodeVolumes x) {
        check.raises(what + ": items", STATE, () -> x.items());
        for (int k : new int[] {0, -1, 1000}) {
            check.raises(what + ": letter", STATE, () -> x.letter(k, 0));
            check.raises(what + ": letter -1", STATE, () -> x.letter(k, -1));
            check.raises(what + ": about", STATE, () -> x.about(k, 0));
            check.raises(what + ": about 6", STATE, () -> x.about(k, 6));
            check.raises(what + ": content", STATE, () -> x.content(k, 0));
            check.raises(what + ": enter", STATE, () -> x.enter(k));
        }
        check.raises(what + ": up", STATE, () -> x.up() ? 1 : 0);
    }

    private static void wrongArguments() {
        InodeVolumes x = FaultTest.small().make().load();
        check.raises("both are wrong", BOUNDS, () -> x.about(4, -1));
        check.raises("what is wrong", ARGUMENT, () -> x.about(3, -1));
        check.raises("a file", ARGUMENT, () -> x.enter(1));
        check.raises("no item", BOUNDS, () -> x.enter(4));
    }

    /** Each put, fill, copy that answered true makes the root HERE; nothing else does. */
    private static void hereAgain() {
        InodeVolumes x = FaultTest.small().make().load();
        int end = 128 * 1024;
        String[] calls = {"put", "fill", "fill of none", "fill of none before the disk", "fill of none behind it",
            "copy", "copy of none", "copy of none from before the disk", "copy of none to behind it"};
        for (int c = 0; c < calls.length; c++) {
            check.same("enter sub", x.enter(2), 2);
            check.same("enter deep", x.enter(0), 0);
            x.put(0, 0, 1);
            x.put(-1, 1, 1);
            x.fill(0, -1, 1);
            x.fill(end, 1, 1);
            x.copy(0, 1, -1);
            x.copy(0, end, 1);
            x.byteAt(0);
            x.fault();
            check.raises("nothing in deep", BOUNDS, () -> x.enter(0));
            check.same("still in deep", x.items(), 0);
            boolean done = c == 0 ? x.put(0, 1, 0) : c == 1 ? x.fill(0, 1, 0) : c == 2 ? x.fill(0, 0, 0)
                    : c == 3 ? x.fill(-1, 0, 7) : c == 4 ? x.fill(end + 1, 0, 7) : c == 5 ? x.copy(0, 1, 1)
                    : c == 6 ? x.copy(0, 1, 0) : c == 7 ? x.copy(-1, 0, 0) : x.copy(0, end + 1, 0);
            check.same(calls[c], done, true);
            check.same("items behind " + calls[c], x.items(), 4);
            check.same("up behind " + calls[c], x.up(), false);
        }
        check.same("enter sub", x.enter(2), 2);
        check.same("up from sub", x.up(), true);
        check.same("up from the root", x.up(), false);
        check.same("up from the root again", x.up(), false);
        check.same("items of the root", x.items(), 4);
    }

    private static void deep() {
        VolumeMaker v = new VolumeMaker(128, 64, 64);
        VolumeMaker.Node n = v.root;
        for (int i = 0; i < 30; i++) {
            n = v.directory(n, "d", 100 - i);
        }
        v.make();
        InodeVolumes x = v.load();
        for (int i = 0; i < 30; i++) {
            check.same("inode " + i, x.about(0, 0), 100 - i);
            check.same("down " + i, x.enter(0), i < 29 ? 1 : 0);
        }
        for (int i = 0; i < 30; i++) {
            check.same("up " + i, x.up(), true);
        }
        check.same("up at the top", x.up(), false);
    }

    private static void randomWalks() {
        Random random = new Random(77);
        for (int run = 0; run < 40; run++) {
            VolumeMaker v = RandomTest.anyVolume(random);
            if (v != null) {
                whole(v);
            }
        }
        // One object with one volume behind another: nothing may be left of those before.
        InodeVolumes x = new InodeVolumes(320);
        byte[] before = new byte[320 * 1024];
        for (int run = 0; run < 40; run++) {
            VolumeMaker v = RandomTest.anyVolume(random, 320);
            if (v != null) {
                RandomTest.carry(x, v.image, before);
                before = v.image;
                whole(x, v);
            }
        }
    }
}
