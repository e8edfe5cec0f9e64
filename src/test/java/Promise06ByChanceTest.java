import java.util.ArrayList;
import java.util.Arrays;
import java.util.List;
import java.util.Random;

/** Promise 6: volumes by chance, changed by chance, and the reference's answer. */
public final class Promise06ByChanceTest {
    public static void main(String[] args) {
        Cases.run(Promise06ByChanceTest.class);
    }

    static void promise6_asTheReferenceSays(Check check) {
        Random random = new Random(2026);
        int[] seen = new int[9];
        for (int run = 0; run < 250; run++) {
            VolumeMaker v = anyVolume(random);
            if (v == null || !isThrifty(v)) {
                continue;
            }
            byte[] sound = v.image.clone();
            check.same("sound, run " + run, v.load().fault(), 0);
            check.same("sound by the reference, run " + run, Reference.fault(v.image), 0);
            for (int turn = 0; turn < 60; turn++) {
                InodeVolumes x = v.load();
                check.same("sound, run " + run + ", turn " + turn, x.fault(), 0);
                int changes = random.nextInt(4) == 0 ? 2 : 1;
                for (int c = 0; c < changes; c++) {
                    change(v, random);
                }
                boolean together = random.nextInt(12) == 0;
                if (together) {
                    v.count();
                }
                if (together || random.nextInt(3) > 0) {
                    v.mirror();
                }
                Volumes.carry(x, v.image, sound);
                int due = Reference.fault(v.image);
                check.same("run " + run + ", turn " + turn, x.fault(), due);
                seen[due]++;
                System.arraycopy(sound, 0, v.image, 0, sound.length);
            }
        }
        System.out.println("Promise06ByChanceTest: how often each fault came: " + Arrays.toString(seen));
        for (int f = 0; f < seen.length; f++) {
            check.yes("fault " + f + " came " + seen[f] + " times", seen[f] >= 50);
        }
    }

    /** Whether it leaves calls for the changes, of those that an object is used for. */
    static boolean isThrifty(VolumeMaker v) {
        return v.calls() <= 350;
    }

    static VolumeMaker anyVolume(Random random) {
        return anyVolume(random, 128 + random.nextInt(random.nextBoolean() ? 385 : 30));
    }

    /** A volume with a tree of some items; null if its groups have no room. */
    static VolumeMaker anyVolume(Random random, int blocks) {
        int perGroup = 64 << random.nextInt(3);
        int inodes = 8 * (1 + random.nextInt(random.nextInt(4) == 0 ? 30 : 5));
        VolumeMaker v = new VolumeMaker(blocks, perGroup, inodes);
        if (!v.roomy()) {
            return null;
        }
        for (int g = 0; g < v.groups; g++) {
            v.map[g] += random.nextInt(v.count(g) - 4 - v.inodeBlocks + 1);
        }
        if (random.nextBoolean()) {
            v.any = random;
        }
        int room = blocks - 1 - v.groups * (4 + v.inodeBlocks) - 1;
        List<VolumeMaker.Node> directories = new ArrayList<>(List.of(v.root));
        List<Integer> free = new ArrayList<>();
        for (int i = 1; i < v.used.length; i++) {
            if (i != 2) {
                free.add(i);
            }
        }
        int wanted = random.nextInt(25);
        for (int i = 0; i < wanted && !free.isEmpty() && room > 5; i++) {
            VolumeMaker.Node in = directories.get(random.nextInt(directories.size()));
            int inode = free.remove(random.nextInt(free.size()));
            String name = "n".repeat(1 + random.nextInt(random.nextInt(5) == 0 ? 255 : 12));
            VolumeMaker.Node n;
            if (random.nextInt(3) == 0) {
                n = v.directory(in, name, inode);
                n.leastBlocks = 1 + random.nextInt(Math.min(room - 4, random.nextInt(4) == 0 ? 16 : 2));
                n.gaps = random.nextBoolean();
                n.dotAlone = random.nextInt(4) == 0;
                directories.add(n);
                room -= n.leastBlocks + 4;
            } else {
                int most = Math.min(room - 4, random.nextInt(3) == 0 ? 300 : 14);
                n = v.file(in, name, inode, random.nextInt(1024 * most + 1));
                n.blank = random.nextBoolean();
                room -= (n.size + 1023) / 1024 + 3;
            }
            // A directory may need one block more for a long name.
            room -= 1;
            n.time = random.nextInt() & 0xFFFFFFFFL;
        }
        return room < 0 ? null : v.make();
    }

    static void change(VolumeMaker v, Random random) {
        List<VolumeMaker.Node> all = new ArrayList<>();
        gather(v.root, all);
        VolumeMaker.Node n = all.get(random.nextInt(all.size()));
        int inode = v.inodePlace(n.inode);
        switch (random.nextInt(16)) {
            case 0:
                alter(v, 1024 + 4 * random.nextInt(26), 4, random);
                break;
            case 1:
                alter(v, 2048 + 32 * random.nextInt(v.groups) + 4 * random.nextInt(3), 4, random);
                break;
            case 2:
                alter(v, 2048 + 32 * random.nextInt(v.groups) + 12 + 2 * random.nextInt(3), 2, random);
                break;
            case 3:
                alter(v, 1024 * v.first(random.nextInt(v.groups)) + random.nextInt(2048), 1, random);
                break;
            case 4:
                alter(v, inode, 2, random);
                break;
            case 5:
                alter(v, inode + 4, 4, random);
                break;
            case 6:
                alter(v, inode + (random.nextBoolean() ? 26 : 28), 2, random);
                break;
            case 7:
            case 8:
                alter(v, inode + 40 + 4 * random.nextInt(15), 4, random);
                break;
            case 9:
                flip(v, v.map[random.nextInt(v.groups)] + random.nextInt(2), random.nextInt(v.perGroup + 10));
                break;
            case 10:
                flip(v, v.map[random.nextInt(v.groups)] + random.nextInt(2), random.nextInt(8192));
                break;
            case 11:
                alter(v, v.inodePlace(1 + random.nextInt(v.used.length - 1)) + random.nextInt(128), 1, random);
                break;
            case 12:
                pointer(v, inode, random);
                break;
            case 13:
                links(v, n, random);
                break;
            default:
                entry(v, all, random);
        }
    }

    private static void gather(VolumeMaker.Node n, List<VolumeMaker.Node> all) {
        all.add(n);
        for (VolumeMaker.Node each : n.inside) {
            gather(each, all);
        }
    }

    private static void alter(VolumeMaker v, int at, int n, Random random) {
        long was = v.peek(at, n);
        long[] values = {0, 1, was + 1, was - 1, was + 4, was ^ 1L << random.nextInt(8 * n), random.nextLong(),
            random.nextInt(v.blocks), 1 + random.nextInt(v.blocks - 1), v.blocks, random.nextInt(40), was * 2};
        v.poke(at, n, values[random.nextInt(values.length)]);
    }

    private static void flip(VolumeMaker v, int block, int k) {
        v.bit(block, k, (v.image[1024 * block + k / 8] & 1 << k % 8) == 0);
    }

    private static void pointer(VolumeMaker v, int inode, Random random) {
        int block = (int) v.peek(inode + 88 + 4 * random.nextInt(2), 4);
        if (block != 0) {
            alter(v, 1024 * block + 4 * random.nextInt(random.nextBoolean() ? 2 : 256), 4, random);
        }
    }

    private static void links(VolumeMaker v, VolumeMaker.Node n, Random random) {
        v.poke(v.inodePlace(n.inode) + 26, 2, random.nextInt(5));
    }

    private static void entry(VolumeMaker v, List<VolumeMaker.Node> all, Random random) {
        VolumeMaker.Node n = all.get(random.nextInt(all.size()));
        if (!n.directory) {
            return;
        }
        int at = v.entryPlace(n, random.nextInt(n.inside.size() + 2) - 2);
        switch (random.nextInt(6)) {
            case 0:
                v.poke(at, 4, all.get(random.nextInt(all.size())).inode);
                break;
            case 1:
                alter(v, at, 4, random);
                break;
            case 2:
                alter(v, at + 4, 2, random);
                break;
            case 3:
                alter(v, at + 6, 1, random);
                break;
            case 4:
                alter(v, at + 7, 1, random);
                break;
            default:
                v.poke(at + 8 + random.nextInt(3), 1, new int[] {0, 47, '.', 'x'}[random.nextInt(4)]);
        }
    }
}
