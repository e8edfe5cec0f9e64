import java.util.ArrayList;
import java.util.List;
import java.util.Random;

/** Makes the bytes of sound volumes for the tests, and puts them into objects by calls of the face. */
final class VolumeMaker {
    /** An item of the volume that is made: what the document's entry and inode tell of it. */
    static final class Node {
        final boolean directory;
        final byte[] name;
        final List<Node> inside = new ArrayList<>();
        Node parent;
        int inode;
        int size;
        long time;
        int rights;
        /** A directory's blocks at the least; more are filled with empty entries. */
        int leastBlocks = 1;
        /** Whether "." fills its block, so that ".." is in the next one. */
        boolean dotAlone;
        /** An empty entry is put before each item. */
        boolean gaps;
        /** A file's bytes stay 0, which takes fewer calls. */
        boolean blank;
        final List<Integer> blocks = new ArrayList<>();

        Node(boolean directory, String name) {
            this.directory = directory;
            this.name = new byte[name.length()];
            for (int i = 0; i < name.length(); i++) {
                this.name[i] = (byte) name.charAt(i);
            }
            rights = directory ? 0755 : 0644;
        }

        int due() {
            int links = directory ? 2 : 1;
            for (Node n : inside) {
                links += n.directory ? 1 : 0;
            }
            return links;
        }
    }

    final int blocks;
    final int perGroup;
    final int inodesPerGroup;
    final int groups;
    final int inodeBlocks;
    final byte[] image;
    final int[] map;
    final Node root = new Node(true, "");
    final boolean[] taken;
    final boolean[] used;
    /** Where blocks come from: the next free one, or any. */
    Random any = null;
    private int nextBlock = 1;

    VolumeMaker(int blocks, int perGroup, int inodesPerGroup) {
        this.blocks = blocks;
        this.perGroup = perGroup;
        this.inodesPerGroup = inodesPerGroup;
        groups = (blocks - 1 + perGroup - 1) / perGroup;
        inodeBlocks = inodesPerGroup / 8;
        image = new byte[blocks * 1024];
        map = new int[groups];
        taken = new boolean[blocks];
        used = new boolean[groups * inodesPerGroup + 1];
        for (int g = 0; g < groups; g++) {
            map[g] = first(g) + 2;
        }
        for (int i = 1; i <= 11 && i < used.length; i++) {
            used[i] = true;
        }
        root.inode = 2;
        root.parent = root;
    }

    int first(int g) {
        return 1 + g * perGroup;
    }

    int count(int g) {
        return Math.min(perGroup, blocks - first(g));
    }

    boolean roomy() {
        for (int g = 0; g < groups; g++) {
            if (count(g) < 4 + inodeBlocks) {
                return false;
            }
        }
        return true;
    }

    Node directory(Node in, String name, int inode) {
        return add(in, new Node(true, name), inode);
    }

    Node file(Node in, String name, int inode, int size) {
        Node n = add(in, new Node(false, name), inode);
        n.size = size;
        return n;
    }

    private Node add(Node in, Node n, int inode) {
        n.parent = in;
        n.inode = inode;
        used[inode] = true;
        in.inside.add(n);
        return n;
    }

    /** Lays everything out; returns itself. */
    VolumeMaker make() {
        for (int g = 0; g < groups; g++) {
            taken[first(g)] = true;
            taken[first(g) + 1] = true;
            for (int b = 0; b < 2 + inodeBlocks; b++) {
                taken[map[g] + b] = true;
            }
        }
        lay(root);
        describe();
        count();
        mirror();
        return this;
    }

    /** The superblock and the descriptors, but for what is free and how many directories there are. */
    void describe() {
        for (int g = 0; g < groups; g++) {
            poke(2048 + 32 * g, 4, map[g]);
            poke(2048 + 32 * g + 4, 4, map[g] + 1);
            poke(2048 + 32 * g + 8, 4, map[g] + 2);
        }
        poke(1024, 4, groups * inodesPerGroup);
        poke(1024 + 4, 4, blocks);
        poke(1024 + 20, 4, 1);
        poke(1024 + 32, 4, perGroup);
        poke(1024 + 36, 4, perGroup);
        poke(1024 + 40, 4, inodesPerGroup);
        poke(1024 + 56, 2, 61267);
        poke(1024 + 58, 2, 1);
        poke(1024 + 76, 4, 1);
        poke(1024 + 84, 4, 11);
        poke(1024 + 88, 2, 128);
        poke(1024 + 96, 4, 2);
    }

    private void lay(Node n) {
        if (n.directory) {
            byte[] entries = entries(n);
            n.size = entries.length;
            spend(n);
            for (int i = 0; i < entries.length; i++) {
                image[1024 * n.blocks.get(i / 1024) + i % 1024] = entries[i];
            }
        } else {
            spend(n);
            for (int i = 0; !n.blank && i < n.blocks.size(); i++) {
                for (int j = 0; j < 1024; j++) {
                    image[1024 * n.blocks.get(i) + j] = (byte) (n.inode + 7 * i + 1);
                }
            }
        }
        for (Node each : n.inside) {
            lay(each);
        }
    }

    /** Takes the blocks that a node's size wants and writes its inode. */
    private void spend(Node n) {
        int place = inodePlace(n.inode);
        int wanted = (n.size + 1023) / 1024;
        int all = wanted;
        int indirect = 0;
        int outer = 0;
        int inner = 0;
        if (wanted > 12) {
            indirect = take();
            all++;
            poke(place + 88, 4, indirect);
        }
        if (wanted > 268) {
            outer = take();
            inner = take();
            all += 2;
            poke(place + 92, 4, outer);
            poke(1024 * outer, 4, inner);
        }
        for (int i = 0; i < wanted; i++) {
            int b = take();
            n.blocks.add(b);
            if (i < 12) {
                poke(place + 40 + 4 * i, 4, b);
            } else if (i < 268) {
                poke(1024 * indirect + 4 * (i - 12), 4, b);
            } else {
                poke(1024 * inner + 4 * (i - 268), 4, b);
            }
        }
        poke(place, 2, (n.directory ? 16384 : 32768) + n.rights);
        poke(place + 4, 4, n.size);
        poke(place + 16, 4, n.time);
        poke(place + 26, 2, n.due());
        poke(place + 28, 4, 2 * all);
    }

    private int take() {
        int b;
        if (any != null) {
            do {
                b = 1 + any.nextInt(blocks - 1);
            } while (taken[b]);
        } else {
            while (taken[nextBlock]) {
                nextBlock++;
            }
            b = nextBlock;
        }
        taken[b] = true;
        return b;
    }

    int freeBlocks() {
        int free = 0;
        for (int b = 1; b < blocks; b++) {
            free += taken[b] ? 0 : 1;
        }
        return free;
    }

    /** The directory's bytes: each entry as short as it can be, the last one of a block up to its end. */
    private byte[] entries(Node n) {
        byte[] bytes = new byte[image.length];
        int[] end = {0, 0};
        place(bytes, end, n.inode, new byte[] {'.'}, 2);
        if (n.dotAlone) {
            stretch(bytes, end);
        }
        place(bytes, end, n.parent.inode, new byte[] {'.', '.'}, 2);
        for (Node each : n.inside) {
            if (n.gaps) {
                place(bytes, end, 0, new byte[] {0, 47, '.'}, 9);
            }
            place(bytes, end, each.inode, each.name, each.directory ? 2 : 1);
        }
        stretch(bytes, end);
        while (end[0] < 1024 * n.leastBlocks) {
            place(bytes, end, 0, new byte[0], 0);
            stretch(bytes, end);
        }
        return java.util.Arrays.copyOf(bytes, end[0]);
    }

    /** end: where the next entry begins, and where the last one began. */
    private void place(byte[] bytes, int[] end, int inode, byte[] name, int mark) {
        int length = Math.max(12, (8 + name.length + 3) / 4 * 4);
        if (end[0] % 1024 + length > 1024) {
            stretch(bytes, end);
        }
        int at = end[0];
        write(bytes, at, 4, inode);
        write(bytes, at + 4, 2, length);
        write(bytes, at + 6, 1, name.length);
        write(bytes, at + 7, 1, mark);
        System.arraycopy(name, 0, bytes, at + 8, name.length);
        end[0] = at + length;
        end[1] = at;
    }

    private void stretch(byte[] bytes, int[] end) {
        int whole = (end[0] + 1023) / 1024 * 1024;
        write(bytes, end[1] + 4, 2, whole - end[1]);
        end[0] = whole;
    }

    /** Writes maps and numbers of what is free as they must be by taken, used and the tree. */
    void count() {
        int allBlocks = 0;
        int allInodes = 0;
        for (int g = 0; g < groups; g++) {
            int free = 0;
            for (int k = 0; k < 8192; k++) {
                boolean one = k >= count(g) || taken[first(g) + k];
                bit(map[g], k, one);
                free += one ? 0 : 1;
            }
            int freeInodes = 0;
            for (int k = 0; k < 8192; k++) {
                boolean one = k >= inodesPerGroup || used[g * inodesPerGroup + k + 1];
                bit(map[g] + 1, k, one);
                freeInodes += one ? 0 : 1;
            }
            poke(2048 + 32 * g + 12, 2, free);
            poke(2048 + 32 * g + 14, 2, freeInodes);
            poke(2048 + 32 * g + 16, 2, directories(root, g));
            allBlocks += free;
            allInodes += freeInodes;
        }
        poke(1024 + 12, 4, allBlocks);
        poke(1024 + 16, 4, allInodes);
    }

    private int directories(Node n, int g) {
        int count = n.directory && (n.inode - 1) / inodesPerGroup == g ? 1 : 0;
        for (Node each : n.inside) {
            count += directories(each, g);
        }
        return count;
    }

    /** The other groups' copies of superblock and descriptors. */
    void mirror() {
        for (int g = 1; g < groups; g++) {
            System.arraycopy(image, 1024, image, 1024 * first(g), 1024 * Math.min(2, count(g)));
            poke(1024 * first(g) + 90, 2, g);
        }
    }

    int inodePlace(int inode) {
        int g = (inode - 1) / inodesPerGroup;
        return 1024 * (map[g] + 2) + 128 * ((inode - 1) % inodesPerGroup);
    }

    /** Where the entry of an item begins; the first two are -2 and -1. */
    int entryPlace(Node in, int item) {
        int order = -2;
        for (int at = 0; at < in.size;) {
            int place = 1024 * in.blocks.get(at / 1024) + at % 1024;
            if (order < 0 || peek(place, 4) != 0) {
                if (order == item) {
                    return place;
                }
                order++;
            }
            at += (int) peek(place + 4, 2);
        }
        throw new IllegalArgumentException("no such item");
    }

    long peek(int at, int n) {
        long value = 0;
        for (int i = 0; i < n; i++) {
            value |= (image[at + i] & 255L) << 8 * i;
        }
        return value;
    }

    void poke(int at, int n, long value) {
        write(image, at, n, value);
    }

    void bit(int block, int k, boolean one) {
        int at = 1024 * block + k / 8;
        int mask = 1 << k % 8;
        image[at] = (byte) (one ? image[at] | mask : image[at] & ~mask);
    }

    private static void write(byte[] bytes, int at, int n, long value) {
        for (int i = 0; i < n; i++) {
            bytes[at + i] = (byte) (value >> 8 * i);
        }
    }

    /** A new object with the image on its disk. */
    InodeVolumes load() {
        return loadInto(new InodeVolumes(blocks));
    }

    InodeVolumes loadInto(InodeVolumes empty) {
        for (int[] part : parts()) {
            int at = part[0];
            int n = part[1];
            boolean done = n > 8 ? empty.fill(at, n, image[at]) : empty.put(at, n, peek(at, n));
            if (!done) {
                throw new IllegalStateException("a put or fill on the disk was refused");
            }
        }
        return empty;
    }

    /** How many calls it takes to load the image. */
    int calls() {
        return parts().size();
    }

    /** The places that are not 0: at most 8 bytes for a put each, or more that are all alike for a fill. */
    private List<int[]> parts() {
        List<int[]> parts = new ArrayList<>();
        for (int at = 0; at < image.length;) {
            int run = 1;
            while (at + run < image.length && image[at + run] == image[at]) {
                run++;
            }
            int n = run > 8 || image[at] == 0 ? run : Math.min(8, image.length - at);
            if (image[at] != 0) {
                parts.add(new int[] {at, n});
            }
            at += n;
        }
        return parts;
    }
}
