import java.util.ArrayList;
import java.util.Arrays;
import java.util.HashMap;
import java.util.HashSet;
import java.util.List;
import java.util.Map;
import java.util.Set;

/** The document's faults once more, over the bytes of a disk, in other words than the class's. */
final class Reference {
    private final byte[] disk;
    private final long blocks;
    private long perGroup;
    private long inodesPerGroup;
    private long groups;
    private final Set<Long> fixed = new HashSet<>();
    private final Map<Long, Long> owner = new HashMap<>();
    private final Map<Long, List<Long>> data = new HashMap<>();
    private final List<Long> came = new ArrayList<>();
    private final Map<Long, Long> parent = new HashMap<>();

    private Reference(byte[] disk) {
        this.disk = disk;
        blocks = disk.length / 1024;
    }

    static int fault(byte[] disk) {
        return new Reference(disk).first();
    }

    private long at(long place, int n) {
        long value = 0;
        for (int i = n - 1; i >= 0; i--) {
            value = value * 256 + (disk[(int) place + i] & 255);
        }
        return value;
    }

    private boolean bit(long map, long k) {
        return (disk[(int) (1024 * map + k / 8)] & 1 << (int) (k % 8)) != 0;
    }

    private long descriptor(long g, int at, int n) {
        return at(2048 + 32 * g + at, n);
    }

    private long inode(long i) {
        return 1024 * descriptor((i - 1) / inodesPerGroup, 8, 4) + 128 * ((i - 1) % inodesPerGroup);
    }

    private boolean used(long i) {
        return bit(descriptor((i - 1) / inodesPerGroup, 4, 4), (i - 1) % inodesPerGroup);
    }

    private long type(long i) {
        return at(inode(i), 2) / 4096 * 4096;
    }

    private long start(long g) {
        return 1 + g * perGroup;
    }

    private long end(long g) {
        return Math.min(blocks, 1 + (g + 1) * perGroup);
    }

    private int first() {
        if (!one()) {
            return 1;
        }
        if (!two()) {
            return 2;
        }
        if (!three()) {
            return 3;
        }
        if (!used(2) || type(2) != 16384 || !whole(2)) {
            return 4;
        }
        came.add(2L);
        parent.put(2L, 2L);
        for (int i = 0; i < came.size(); i++) {
            long dir = came.get(i);
            if (type(dir) == 16384) {
                List<Long> inside = entries(dir);
                if (inside == null) {
                    return 5;
                }
                for (long child : inside) {
                    if (came.contains(child) || !whole(child)) {
                        return 4;
                    }
                    came.add(child);
                    parent.put(child, dir);
                }
            }
        }
        for (long i : came) {
            long due = 1;
            if (type(i) == 16384) {
                due = 2;
                for (long c : came) {
                    due += c != 2 && type(c) == 16384 && parent.get(c) == i ? 1 : 0;
                }
            }
            if (at(inode(i) + 26, 2) != due) {
                return 6;
            }
        }
        return !seven() ? 7 : !eight() ? 8 : 0;
    }

    private boolean one() {
        perGroup = at(1024 + 32, 4);
        inodesPerGroup = at(1024 + 40, 4);
        if (!List.of(64L, 128L, 256L).contains(perGroup)) {
            return false;
        }
        if (inodesPerGroup < 8 || inodesPerGroup > 8192 || inodesPerGroup % 8 > 0) {
            return false;
        }
        groups = (long) Math.ceil((blocks - 1) / (double) perGroup);
        long[][] wanted = {
            {0, 4, groups * inodesPerGroup}, {4, 4, blocks}, {20, 4, 1}, {24, 4, 0}, {36, 4, perGroup},
            {56, 2, 61267}, {58, 2, 1}, {76, 4, 1}, {84, 4, 11}, {88, 2, 128}, {90, 2, 0}, {96, 4, 2}};
        for (long[] w : wanted) {
            if (at(1024 + w[0], (int) w[1]) != w[2]) {
                return false;
            }
        }
        return true;
    }

    private boolean two() {
        for (long g = 1; g < groups; g++) {
            if (end(g) - start(g) < 2) {
                return false;
            }
            byte[] due = Arrays.copyOfRange(disk, 1024, 3072);
            due[90] = (byte) g;
            due[91] = 0;
            int from = (int) (1024 * start(g));
            if (!Arrays.equals(due, Arrays.copyOfRange(disk, from, from + 2048))) {
                return false;
            }
        }
        return true;
    }

    private boolean three() {
        for (long g = 0; g < groups; g++) {
            List<Long> these = new ArrayList<>(List.of(start(g), start(g) + 1));
            long m = descriptor(g, 0, 4);
            if (descriptor(g, 4, 4) != m + 1 || descriptor(g, 8, 4) != m + 2 || m <= start(g)) {
                return false;
            }
            for (long b = m; b < m + 2 + inodesPerGroup / 8; b++) {
                these.add(b);
            }
            for (long b : these) {
                if (b < start(g) || b >= end(g) || !fixed.add(b)) {
                    return false;
                }
            }
        }
        return true;
    }

    private boolean own(long block, long i) {
        return block >= 1 && block < blocks && !fixed.contains(block) && owner.putIfAbsent(block, i) == null;
    }

    private boolean whole(long i) {
        long place = inode(i);
        long size = at(place + 4, 4);
        if (size > 1024 * blocks) {
            return false;
        }
        int n = (int) Math.ceil(size / 1024.0);
        int all = n;
        if (n > 12) {
            if (!own(at(place + 88, 4), i)) {
                return false;
            }
            all++;
        } else if (at(place + 88, 4) != 0) {
            return false;
        }
        List<Long> inner = new ArrayList<>();
        if (n > 268) {
            long outer = at(place + 92, 4);
            if (!own(outer, i)) {
                return false;
            }
            all++;
            for (int have = 268; have < n; have += 256) {
                inner.add(at(1024 * outer + 4L * inner.size(), 4));
                all++;
            }
        } else if (at(place + 92, 4) != 0) {
            return false;
        }
        for (long b : inner) {
            if (!own(b, i)) {
                return false;
            }
        }
        List<Long> mine = new ArrayList<>();
        for (int k = 0; k < n; k++) {
            long b = k < 12 ? at(place + 40 + 4 * k, 4)
                    : k < 268 ? at(1024 * at(place + 88, 4) + 4 * (k - 12), 4)
                    : at(1024 * inner.get((k - 268) / 256) + 4 * ((k - 268) % 256), 4);
            if (!own(b, i)) {
                return false;
            }
            mine.add(b);
        }
        for (int k = n; k < 12; k++) {
            if (at(place + 40 + 4 * k, 4) != 0) {
                return false;
            }
        }
        data.put(i, mine);
        return at(place + 96, 4) == 0 && at(place + 28, 4) == 2 * all;
    }

    /** The inodes of the entries that are not empty, behind the first two; null for fault 5. */
    private List<Long> entries(long dir) {
        long size = at(inode(dir) + 4, 4);
        if (size == 0 || size % 1024 != 0) {
            return null;
        }
        List<Long> inside = new ArrayList<>();
        int order = 0;
        for (long b : data.get(dir)) {
            long place = 1024 * b;
            while (place < 1024 * (b + 1)) {
                long length = at(place + 4, 2);
                if (length < 12 || length % 4 > 0 || place + length > 1024 * (b + 1)) {
                    return null;
                }
                long i = at(place, 4);
                if (i != 0 || order < 2) {
                    if (!entry(dir, place, order)) {
                        return null;
                    }
                    if (order >= 2) {
                        inside.add(i);
                    }
                }
                order++;
                place += length;
            }
        }
        return order < 2 ? null : inside;
    }

    private boolean entry(long dir, long place, int order) {
        long i = at(place, 4);
        int letters = (int) at(place + 6, 1);
        long mark = at(place + 7, 1);
        if (at(place + 4, 2) < (8 + letters + 3) / 4 * 4 || i < 1 || i > groups * inodesPerGroup) {
            return false;
        }
        StringBuilder name = new StringBuilder();
        for (int k = 0; k < letters; k++) {
            name.append((char) at(place + 8 + k, 1));
        }
        String text = name.toString();
        if (text.isEmpty() || text.indexOf(0) >= 0 || text.contains("/")) {
            return false;
        }
        if (order == 0) {
            return text.equals(".") && i == dir && mark == 2;
        }
        if (order == 1) {
            return text.equals("..") && i == parent.get(dir) && mark == 2;
        }
        return !text.equals(".") && !text.equals("..") && used(i)
                && (type(i) == 16384 && mark == 2 || type(i) == 32768 && mark == 1);
    }

    private boolean seven() {
        for (long i = 1; i <= groups * inodesPerGroup; i++) {
            boolean known = came.contains(i);
            if (used(i) != (known || i <= 11)) {
                return false;
            }
            for (int k = 0; !known && k < 128; k++) {
                if (disk[(int) inode(i) + k] != 0) {
                    return false;
                }
            }
        }
        return true;
    }

    private boolean eight() {
        long freeBlocks = 0;
        long freeInodes = 0;
        for (long g = 0; g < groups; g++) {
            long blocksHere = 0;
            long inodesHere = 0;
            long directories = 0;
            for (long k = 0; k < 8192; k++) {
                long b = start(g) + k;
                boolean due = b >= end(g) || fixed.contains(b) || owner.containsKey(b);
                if (bit(descriptor(g, 0, 4), k) != due) {
                    return false;
                }
                blocksHere += due ? 0 : 1;
                boolean one = bit(descriptor(g, 4, 4), k);
                if (k >= inodesPerGroup && !one) {
                    return false;
                }
                inodesHere += one ? 0 : 1;
            }
            for (long i : came) {
                directories += (i - 1) / inodesPerGroup == g && type(i) == 16384 ? 1 : 0;
            }
            if (descriptor(g, 12, 2) != blocksHere || descriptor(g, 14, 2) != inodesHere
                    || descriptor(g, 16, 2) != directories) {
                return false;
            }
            freeBlocks += blocksHere;
            freeInodes += inodesHere;
        }
        return at(1024 + 12, 4) == freeBlocks && at(1024 + 16, 4) == freeInodes;
    }
}
