import java.util.Arrays;

/** A volume of inodes on a disk of blocks, put there byte by byte: looked through for its first fault, and read. */
public final class InodeVolumes {
    public static final int NONE = -1;

    private static final int LEAST_BLOCKS = 128;
    private static final int MOST_BLOCKS = 512;
    private static final int BLOCK = 1024;
    private static final int SUPERBLOCK = BLOCK;
    private static final int DESCRIPTORS = 2 * BLOCK;
    private static final int DESCRIPTOR = 32;
    private static final int LEAST_GROUP = 64;
    private static final int MOST_GROUPS = MOST_BLOCKS / LEAST_GROUP;
    private static final int MAP_BITS = 8 * BLOCK;

    private static final int INODE = 128;
    private static final int INODES_IN_BLOCK = BLOCK / INODE;
    private static final int ROOT = 2;
    private static final int LAST_RESERVED = 11;
    private static final int TYPE_BITS = 0xF000;
    private static final int DIRECTORY = 16384;
    private static final int FILE = 32768;

    private static final int POINTERS = 40;
    private static final int DIRECT = 12;
    private static final int POINTERS_IN_BLOCK = BLOCK / 4;
    private static final int UNDOUBLED = DIRECT + POINTERS_IN_BLOCK;
    private static final int INDIRECT_POINTER = POINTERS + 4 * DIRECT;
    private static final int DOUBLE_POINTER = INDIRECT_POINTER + 4;
    private static final int TRIPLE_POINTER = DOUBLE_POINTER + 4;

    private static final int LEAST_ENTRY = 12;
    private static final int MOST_ENTRIES = MOST_BLOCKS * BLOCK / LEAST_ENTRY + 1;
    private static final int NAME = 8;
    private static final int TWO_DOTS = '.' << 8 | '.';
    private static final int FILE_MARK = 1;
    private static final int DIRECTORY_MARK = 2;

    private final Disk disk;
    private final Layout layout;
    private final Entries entries;
    private final Survey survey;
    private int here;

    public InodeVolumes(int blocks) {
        disk = new Disk(blocks);
        layout = new Layout(disk);
        entries = new Entries(disk, layout);
        survey = new Survey(disk, layout, entries);
        here = ROOT;
    }

    public boolean put(int at, int n, long value) {
        if (n < 1 || n > 8 || !disk.holds(at, n)) {
            return false;
        }
        disk.set(at, n, value);
        beginAgain();
        return true;
    }

    public boolean fill(int at, int n, int value) {
        if (!disk.holds(at, n)) {
            return false;
        }
        disk.spread(at, n, value);
        beginAgain();
        return true;
    }

    public boolean copy(int from, int to, int n) {
        if (!disk.holds(from, n) || !disk.holds(to, n)) {
            return false;
        }
        disk.move(from, to, n);
        beginAgain();
        return true;
    }

    public int byteAt(int at) {
        return disk.holds(at, 1) ? (int) disk.number(at, 1) : NONE;
    }

    public int fault() {
        return survey.firstFault();
    }

    public int items() throws IllegalStateException {
        if (survey.firstFault() != 0) {
            throw new IllegalStateException("the volume is not sound");
        }
        return countItems();
    }

    public int letter(int k, int i) throws IllegalStateException, IndexOutOfBoundsException {
        if (survey.firstFault() != 0) {
            throw new IllegalStateException("the volume is not sound");
        }
        seekItem(k);
        if (i < 0) {
            throw new IndexOutOfBoundsException("a name has no byte before its first");
        }
        return i < entries.nameLength() ? entries.nameByte(i) : NONE;
    }

    public long about(int k, int what)
            throws IllegalStateException, IndexOutOfBoundsException, IllegalArgumentException {
        if (survey.firstFault() != 0) {
            throw new IllegalStateException("the volume is not sound");
        }
        seekItem(k);
        int inode = entries.inode();
        switch (what) {
            case 0:
                return inode;
            case 1:
                return layout.typeOf(inode) == DIRECTORY ? 1 : 0;
            case 2:
                return layout.sizeOf(inode);
            case 3:
                return layout.field(inode, 26, 2);
            case 4:
                return layout.field(inode, 16, 4);
            case 5:
                return lastBlock(inode);
            default:
                throw new IllegalArgumentException("what is not 0 to 5");
        }
    }

    public int content(int k, int at) throws IllegalStateException, IndexOutOfBoundsException {
        if (survey.firstFault() != 0) {
            throw new IllegalStateException("the volume is not sound");
        }
        seekItem(k);
        int inode = entries.inode();
        if (at < 0 || at >= layout.sizeOf(inode)) {
            return NONE;
        }
        return (int) disk.number(BLOCK * layout.blockOf(inode, at / BLOCK) + at % BLOCK, 1);
    }

    public int enter(int k) throws IllegalStateException, IndexOutOfBoundsException, IllegalArgumentException {
        if (survey.firstFault() != 0) {
            throw new IllegalStateException("the volume is not sound");
        }
        seekItem(k);
        int inode = entries.inode();
        if (layout.typeOf(inode) != DIRECTORY) {
            throw new IllegalArgumentException("the item is a file");
        }
        here = inode;
        return countItems();
    }

    public boolean up() throws IllegalStateException {
        if (survey.firstFault() != 0) {
            throw new IllegalStateException("the volume is not sound");
        }
        if (here == ROOT) {
            return false;
        }
        entries.start(here);
        entries.advance();
        here = entries.inode();
        return true;
    }

    private void beginAgain() {
        survey.forget();
        here = ROOT;
    }

    private int countItems() {
        int count = 0;
        entries.start(here);
        for (int turn = 0; turn < MOST_ENTRIES && entries.isOn(); turn++) {
            if (entries.isItem()) {
                count++;
            }
            entries.advance();
        }
        return count;
    }

    private void seekItem(int k) {
        int ahead = k;
        entries.start(here);
        for (int turn = 0; k >= 0 && turn < MOST_ENTRIES && entries.isOn(); turn++) {
            if (entries.isItem()) {
                if (ahead == 0) {
                    return;
                }
                ahead--;
            }
            entries.advance();
        }
        throw new IndexOutOfBoundsException("there is no such item here");
    }

    private long lastBlock(int inode) {
        int blocks = layout.blocksFor(layout.sizeOf(inode));
        return blocks > 0 ? layout.blockOf(inode, blocks - 1) : 0;
    }

    /** The bytes, eight in a word, since a row of single bytes would take eight times the room. */
    private static final class Disk {
        private final int blocks;
        private final int size;
        private final long[] words;

        Disk(int wanted) {
            blocks = Math.max(LEAST_BLOCKS, Math.min(MOST_BLOCKS, wanted));
            size = blocks * BLOCK;
            words = new long[size / 8];
        }

        int blocks() {
            return blocks;
        }

        /** Of no bytes none is off the disk, wherever their place is. */
        boolean holds(long at, int n) {
            return n == 0 || n > 0 && at >= 0 && at <= size - n;
        }

        /** 0 for what is not on the disk: a pointer is followed before anybody knows that it is a good one. */
        long number(long at, int n) {
            if (n < 1 || n > 8 || at < 0 || at > size - n) {
                return 0;
            }
            int word = (int) (at >> 3);
            int shift = (int) (at & 7) << 3;
            long value = words[word] >>> shift;
            if (shift + 8 * n > 64) {
                value |= words[word + 1] << (64 - shift);
            }
            return value & -1L >>> (64 - 8 * n);
        }

        void set(long at, int n, long value) {
            if (n < 1 || n > 8 || at < 0 || at > size - n) {
                return;
            }
            int word = (int) (at >> 3);
            int shift = (int) (at & 7) << 3;
            long mask = -1L >>> (64 - 8 * n);
            long low = value & mask;
            words[word] = words[word] & ~(mask << shift) | low << shift;
            if (shift + 8 * n > 64) {
                words[word + 1] = words[word + 1] & ~(mask >>> (64 - shift)) | low >>> (64 - shift);
            }
        }

        void spread(int at, int n, int value) {
            long eight = (value & 255) * 0x0101010101010101L;
            int done = 0;
            for (; done <= n - 8; done += 8) {
                set(at + done, 8, eight);
            }
            set(at + done, n - done, eight);
        }

        /** Begins at the end that keeps what is still to be read from being written over. */
        void move(int from, int to, int n) {
            if (to <= from) {
                int done = 0;
                for (; done <= n - 8; done += 8) {
                    set(to + done, 8, number(from + done, 8));
                }
                set(to + done, n - done, number(from + done, n - done));
            } else {
                int left = n;
                for (; left >= 8; left -= 8) {
                    set(to + left - 8, 8, number(from + left - 8, 8));
                }
                set(to, left, number(from, left));
            }
        }

        boolean bit(long map, int k) {
            return (number(map + k / 8, 1) >> k % 8 & 1) != 0;
        }

        boolean onesFrom(long map, int first) {
            int k = first;
            for (; k < MAP_BITS && k % 64 != 0; k++) {
                if ((number(map + k / 8, 1) >> k % 8 & 1) == 0) {
                    return false;
                }
            }
            for (; k < MAP_BITS; k += 64) {
                if (number(map + k / 8, 8) != -1L) {
                    return false;
                }
            }
            return true;
        }
    }

    /** Where groups, inodes and their blocks stand; good once the superblock and the descriptors are. */
    private static final class Layout {
        /** Far enough before the disk that no field of such an inode is on it. */
        private static final long NOWHERE = -BLOCK;

        private final Disk disk;
        private final int[] mapBlock = new int[MOST_GROUPS];
        private int groupBlocks;
        private int groupInodes;
        private int groups;
        private int inodes;

        Layout(Disk disk) {
            this.disk = disk;
        }

        /** False if the superblock's own numbers rule the groups out; then nothing is changed. */
        boolean readGroups() {
            long blocks = disk.number(SUPERBLOCK + 32, 4);
            long perGroup = disk.number(SUPERBLOCK + 40, 4);
            if (blocks != 64 && blocks != 128 && blocks != 256) {
                return false;
            }
            if (perGroup < 8 || perGroup > 8192 || perGroup % 8 != 0) {
                return false;
            }
            groupBlocks = (int) blocks;
            groupInodes = (int) perGroup;
            groups = (disk.blocks() - 1 + groupBlocks - 1) / groupBlocks;
            inodes = groups * groupInodes;
            return true;
        }

        void setMap(int g, int block) {
            if (g >= 0 && g < MOST_GROUPS) {
                mapBlock[g] = block;
            }
        }

        int groups() {
            return groups;
        }

        int groupBlocks() {
            return groupBlocks;
        }

        int groupInodes() {
            return groupInodes;
        }

        int inodes() {
            return inodes;
        }

        int firstBlock(int g) {
            return 1 + g * groupBlocks;
        }

        int blocksOf(int g) {
            return Math.min(groupBlocks, disk.blocks() - firstBlock(g));
        }

        long described(int g, int at, int n) {
            return disk.number(DESCRIPTORS + DESCRIPTOR * g + at, n);
        }

        long blockMap(int g) {
            return g >= 0 && g < MOST_GROUPS ? (long) BLOCK * mapBlock[g] : NOWHERE;
        }

        long inodeMap(int g) {
            return blockMap(g) + BLOCK;
        }

        int groupOf(int inode) {
            return inode >= 1 && groupInodes > 0 ? (inode - 1) / groupInodes : NONE;
        }

        boolean isInode(long inode) {
            return inode >= 1 && inode <= inodes;
        }

        boolean isUsed(int inode) {
            int g = groupOf(inode);
            if (g < 0 || g >= MOST_GROUPS) {
                return false;
            }
            int k = inode - 1 - g * groupInodes;
            return (disk.number((long) BLOCK * (mapBlock[g] + 1) + k / 8, 1) >> k % 8 & 1) != 0;
        }

        long inodePlace(int inode) {
            if (inode < 1 || groupInodes < 1) {
                return NOWHERE;
            }
            int g = (inode - 1) / groupInodes;
            if (g >= MOST_GROUPS) {
                return NOWHERE;
            }
            return (long) BLOCK * (mapBlock[g] + 2) + INODE * (inode - 1 - g * groupInodes);
        }

        long field(int inode, int at, int n) {
            return disk.number(inodePlace(inode) + at, n);
        }

        int typeOf(int inode) {
            return (int) disk.number(inodePlace(inode), 2) & TYPE_BITS;
        }

        long sizeOf(int inode) {
            return disk.number(inodePlace(inode) + 4, 4);
        }

        int blocksFor(long size) {
            return (int) ((size + BLOCK - 1) / BLOCK);
        }

        /** The block with the bytes from 1024 * i on. */
        long blockOf(int inode, int i) {
            long place = inodePlace(inode);
            if (i < DIRECT) {
                return disk.number(place + POINTERS + 4 * i, 4);
            }
            if (i < UNDOUBLED) {
                return disk.number(BLOCK * disk.number(place + INDIRECT_POINTER, 4) + 4 * (i - DIRECT), 4);
            }
            int j = i - UNDOUBLED;
            long outer = BLOCK * disk.number(place + DOUBLE_POINTER, 4);
            long inner = BLOCK * disk.number(outer + 4 * (j / POINTERS_IN_BLOCK), 4);
            return disk.number(inner + 4 * (j % POINTERS_IN_BLOCK), 4);
        }
    }

    /** The entries of one directory, one at a time. */
    private static final class Entries {
        private static final long INODE_BITS = 0xFFFFFFFFL;

        private final Disk disk;
        private final Layout layout;
        private int directory;
        private long size;
        private long offset;
        private int order;
        private long place;
        /** The entry's first eight bytes; 0 if they are not on the disk, which is an entry that does not fit. */
        private long head;

        Entries(Disk disk, Layout layout) {
            this.disk = disk;
            this.layout = layout;
        }

        void start(int inode) {
            directory = inode;
            size = layout.sizeOf(inode);
            offset = 0;
            order = 0;
            place = BLOCK * layout.blockOf(inode, 0);
            head = disk.number(place, 8);
        }

        boolean isOn() {
            return offset < size;
        }

        /** Goes on by no less than the least entry, so that a walk ends whatever stands there. */
        void advance() {
            offset += Math.max(LEAST_ENTRY, length());
            order++;
            place = BLOCK * layout.blockOf(directory, (int) (offset / BLOCK)) + offset % BLOCK;
            head = disk.number(place, 8);
        }

        int order() {
            return order;
        }

        int inode() {
            return (int) head;
        }

        boolean hasInode() {
            return layout.isInode(head & INODE_BITS);
        }

        int length() {
            return (int) (head >>> 32) & 0xFFFF;
        }

        int nameLength() {
            return (int) (head >>> 48) & 255;
        }

        int mark() {
            return (int) (head >>> 56);
        }

        int nameByte(int i) {
            return (int) disk.number(place + NAME + i, 1);
        }

        boolean isEmpty() {
            return order >= 2 && (head & INODE_BITS) == 0;
        }

        boolean isItem() {
            return order >= 2 && (head & INODE_BITS) != 0;
        }

        boolean fits() {
            int length = length();
            return length >= LEAST_ENTRY && length % 4 == 0 && offset % BLOCK + length <= BLOCK;
        }

        boolean hasName() {
            int letters = nameLength();
            // The length is a multiple of 4 already, so that rounding up what is needed changes nothing.
            if (letters == 0 || NAME + letters > length()) {
                return false;
            }
            for (int i = 0; i < letters; i++) {
                long letter = disk.number(place + NAME + i, 1);
                if (letter == 0 || letter == '/') {
                    return false;
                }
            }
            return true;
        }

        boolean isOneDot() {
            return nameLength() == 1 && disk.number(place + NAME, 1) == '.';
        }

        boolean isTwoDots() {
            return nameLength() == 2 && disk.number(place + NAME, 2) == TWO_DOTS;
        }
    }

    /** The search for the first fault; what it found is kept until the disk changes. */
    private static final class Survey {
        private static final int UNKNOWN = -1;

        private final Disk disk;
        private final Layout layout;
        private final Entries entries;
        /** By block: 1 if it is fixed or some inode's. */
        private final int[] taken;
        /** By inode: 1 if it is the root or came up. */
        private final int[] known;
        /** The root and those that came up, in their order: the inode, its parent, how many directories are in it. */
        private final int[] line;
        private final int[] parents;
        private final int[] inside;
        private int came;
        private int found;

        Survey(Disk disk, Layout layout, Entries entries) {
            this.disk = disk;
            this.layout = layout;
            this.entries = entries;
            // Without fault 3 all inodes are in blocks of their own, so there are no more than fill the disk.
            int mostInodes = INODES_IN_BLOCK * MOST_BLOCKS;
            taken = new int[MOST_BLOCKS];
            known = new int[mostInodes + 1];
            line = new int[mostInodes];
            parents = new int[mostInodes];
            inside = new int[mostInodes];
            found = UNKNOWN;
        }

        void forget() {
            found = UNKNOWN;
        }

        int firstFault() {
            if (found != UNKNOWN) {
                return found;
            }
            if (!superblockStands()) {
                found = 1;
            } else if (!copiesStand()) {
                found = 2;
            } else if (!groupsStand()) {
                found = 3;
            } else {
                found = treeFault();
            }
            if (found == 0) {
                found = lateFault();
            }
            return found;
        }

        private boolean superblockStands() {
            return layout.readGroups()
                    && superblockHas(0, 4, layout.inodes())
                    && superblockHas(4, 4, disk.blocks())
                    && superblockHas(20, 4, 1)
                    && superblockHas(24, 4, 0)
                    && superblockHas(36, 4, layout.groupBlocks())
                    && superblockHas(56, 2, 61267)
                    && superblockHas(58, 2, 1)
                    && superblockHas(76, 4, 1)
                    && superblockHas(84, 4, 11)
                    && superblockHas(88, 2, 128)
                    && superblockHas(90, 2, 0)
                    && superblockHas(96, 4, 2);
        }

        private boolean superblockHas(int at, int n, long value) {
            return disk.number(SUPERBLOCK + at, n) == value;
        }

        private boolean copiesStand() {
            for (int g = 1; g < layout.groups(); g++) {
                if (layout.blocksOf(g) < 2 || !hasCopies(g)) {
                    return false;
                }
            }
            return true;
        }

        private boolean hasCopies(int g) {
            long place = (long) BLOCK * layout.firstBlock(g);
            for (int i = 0; i < 2 * BLOCK; i += 8) {
                long due = disk.number(SUPERBLOCK + i, 8);
                if (i == 88) {
                    // The superblock has 0 at 90 (2), by fault 1, where its copy has the group's number.
                    due |= (long) g << 16;
                }
                if (disk.number(place + i, 8) != due) {
                    return false;
                }
            }
            return true;
        }

        private boolean groupsStand() {
            Arrays.fill(taken, 0);
            for (int g = 0; g < layout.groups(); g++) {
                int first = layout.firstBlock(g);
                int end = first + layout.blocksOf(g);
                int inodeBlocks = layout.groupInodes() / INODES_IN_BLOCK;
                long map = layout.described(g, 0, 4);
                if (map < first + 2 || map + 2 + inodeBlocks > end) {
                    return false;
                }
                if (layout.described(g, 4, 4) != map + 1 || layout.described(g, 8, 4) != map + 2) {
                    return false;
                }
                layout.setMap(g, (int) map);
                fix(first, 2);
                fix((int) map, 2 + inodeBlocks);
            }
            return true;
        }

        private void fix(int block, int n) {
            for (int b = Math.max(block, 0); b < block + n && b < taken.length; b++) {
                taken[b] = 1;
            }
        }

        private int treeFault() {
            Arrays.fill(known, 0);
            came = 0;
            if (!layout.isUsed(ROOT) || layout.typeOf(ROOT) != DIRECTORY || !takeWhole(ROOT)) {
                return 4;
            }
            standInLine(ROOT, ROOT);
            for (int i = 0; i < came && i < line.length; i++) {
                if (layout.typeOf(line[i]) == DIRECTORY) {
                    if (!entriesStand(line[i], parents[i])) {
                        return 5;
                    }
                    if (!itemsComeUp(i)) {
                        return 4;
                    }
                }
            }
            return 0;
        }

        private void standInLine(int inode, int parent) {
            if (inode < 1 || inode >= known.length || came < 0 || came >= line.length) {
                return;
            }
            known[inode] = 1;
            line[came] = inode;
            parents[came] = parent;
            inside[came] = 0;
            came++;
        }

        private boolean isKnown(int inode) {
            return inode >= 1 && inode < known.length && known[inode] == 1;
        }

        /** Whether the inode is whole; then its blocks are taken. */
        private boolean takeWhole(int inode) {
            long size = layout.sizeOf(inode);
            if (size > (long) BLOCK * disk.blocks()) {
                return false;
            }
            int n = layout.blocksFor(size);
            int doubled = n > UNDOUBLED ? (n - UNDOUBLED + POINTERS_IN_BLOCK - 1) / POINTERS_IN_BLOCK : 0;
            int others = (n > DIRECT ? 1 : 0) + (n > UNDOUBLED ? 1 : 0) + doubled;
            if (layout.field(inode, 28, 4) != 2 * (n + others) || !spareAreZero(inode, n)) {
                return false;
            }
            if (n > DIRECT && !take(layout.field(inode, INDIRECT_POINTER, 4))) {
                return false;
            }
            long outer = layout.field(inode, DOUBLE_POINTER, 4);
            if (n > UNDOUBLED && !take(outer)) {
                return false;
            }
            for (int i = 0; i < doubled; i++) {
                if (!take(disk.number(BLOCK * outer + 4 * i, 4))) {
                    return false;
                }
            }
            for (int i = 0; i < n; i++) {
                if (!take(layout.blockOf(inode, i))) {
                    return false;
                }
            }
            return true;
        }

        private boolean spareAreZero(int inode, int n) {
            long place = layout.inodePlace(inode);
            for (int i = n; i < DIRECT; i++) {
                if (disk.number(place + POINTERS + 4 * i, 4) != 0) {
                    return false;
                }
            }
            return (n > DIRECT || disk.number(place + INDIRECT_POINTER, 4) == 0)
                    && (n > UNDOUBLED || disk.number(place + DOUBLE_POINTER, 4) == 0)
                    && disk.number(place + TRIPLE_POINTER, 4) == 0;
        }

        private boolean take(long block) {
            if (block < 1 || block >= disk.blocks() || block >= taken.length) {
                return false;
            }
            int b = (int) block;
            if (taken[b] != 0) {
                return false;
            }
            taken[b] = 1;
            return true;
        }

        private boolean entriesStand(int directory, int parent) {
            long size = layout.sizeOf(directory);
            if (size == 0 || size % BLOCK != 0) {
                return false;
            }
            entries.start(directory);
            for (int turn = 0; turn < MOST_ENTRIES && entries.isOn(); turn++) {
                if (!entries.fits()) {
                    return false;
                }
                if (!entries.isEmpty() && !entryStands(directory, parent)) {
                    return false;
                }
                entries.advance();
            }
            return entries.order() >= 2;
        }

        private boolean entryStands(int directory, int parent) {
            if (!entries.hasInode() || !entries.hasName()) {
                return false;
            }
            int inode = entries.inode();
            if (entries.order() == 0) {
                return entries.isOneDot() && inode == directory && entries.mark() == DIRECTORY_MARK;
            }
            if (entries.order() == 1) {
                return entries.isTwoDots() && inode == parent && entries.mark() == DIRECTORY_MARK;
            }
            if (entries.isOneDot() || entries.isTwoDots() || !layout.isUsed(inode)) {
                return false;
            }
            int type = layout.typeOf(inode);
            return type == DIRECTORY && entries.mark() == DIRECTORY_MARK
                    || type == FILE && entries.mark() == FILE_MARK;
        }

        private boolean itemsComeUp(int index) {
            if (index < 0 || index >= line.length) {
                return false;
            }
            int directory = line[index];
            entries.start(directory);
            for (int turn = 0; turn < MOST_ENTRIES && entries.isOn(); turn++) {
                if (entries.isItem()) {
                    int inode = entries.inode();
                    if (isKnown(inode) || !takeWhole(inode)) {
                        return false;
                    }
                    standInLine(inode, directory);
                    if (entries.mark() == DIRECTORY_MARK) {
                        inside[index]++;
                    }
                }
                entries.advance();
            }
            return true;
        }

        private int lateFault() {
            if (!linksStand()) {
                return 6;
            }
            if (!inodesStand()) {
                return 7;
            }
            return mapsStand() ? 0 : 8;
        }

        private boolean linksStand() {
            for (int i = 0; i < came && i < line.length; i++) {
                int due = layout.typeOf(line[i]) == DIRECTORY ? 2 + inside[i] : 1;
                if (layout.field(line[i], 26, 2) != due) {
                    return false;
                }
            }
            return true;
        }

        private boolean inodesStand() {
            for (int inode = 1; inode <= layout.inodes(); inode++) {
                boolean kept = isKnown(inode);
                if (layout.isUsed(inode) != (kept || inode <= LAST_RESERVED)) {
                    return false;
                }
                if (!kept && !isBlank(inode)) {
                    return false;
                }
            }
            return true;
        }

        private boolean isBlank(int inode) {
            long place = layout.inodePlace(inode);
            for (int i = 0; i < INODE; i += 8) {
                if (disk.number(place + i, 8) != 0) {
                    return false;
                }
            }
            return true;
        }

        private boolean mapsStand() {
            int allBlocks = 0;
            int allInodes = 0;
            for (int g = 0; g < layout.groups(); g++) {
                if (!blockMapStands(g) || !disk.onesFrom(layout.inodeMap(g), layout.groupInodes())) {
                    return false;
                }
                int freeBlocks = freeBlocks(g);
                int freeInodes = freeInodes(g);
                if (layout.described(g, 12, 2) != freeBlocks || layout.described(g, 14, 2) != freeInodes
                        || layout.described(g, 16, 2) != directories(g)) {
                    return false;
                }
                allBlocks += freeBlocks;
                allInodes += freeInodes;
            }
            return superblockHas(12, 4, allBlocks) && superblockHas(16, 4, allInodes);
        }

        private boolean isTaken(int block) {
            return block >= 0 && block < taken.length && taken[block] != 0;
        }

        private boolean blockMapStands(int g) {
            int blocks = layout.blocksOf(g);
            for (int k = 0; k < blocks; k++) {
                if (disk.bit(layout.blockMap(g), k) != isTaken(layout.firstBlock(g) + k)) {
                    return false;
                }
            }
            return disk.onesFrom(layout.blockMap(g), blocks);
        }

        private int freeBlocks(int g) {
            int blocks = layout.blocksOf(g);
            int free = 0;
            for (int k = 0; k < blocks; k++) {
                if (!isTaken(layout.firstBlock(g) + k)) {
                    free++;
                }
            }
            return free;
        }

        private int freeInodes(int g) {
            int free = 0;
            for (int k = 0; k < layout.groupInodes(); k++) {
                if (!disk.bit(layout.inodeMap(g), k)) {
                    free++;
                }
            }
            return free;
        }

        private int directories(int g) {
            int count = 0;
            for (int i = 0; i < came && i < line.length; i++) {
                if (layout.groupOf(line[i]) == g && layout.typeOf(line[i]) == DIRECTORY) {
                    count++;
                }
            }
            return count;
        }
    }
}
