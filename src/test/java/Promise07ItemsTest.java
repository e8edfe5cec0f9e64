/** Promise 7: items. */
public final class Promise07ItemsTest {
    public static void main(String[] args) {
        Cases.run(Promise07ItemsTest.class);
    }

    static void promise7_noneInARootWithNothingInIt(Check check) {
        check.same("a root of two entries", Volumes.bare().make().load().items(), 0);
        VolumeMaker v = Volumes.bare();
        v.root.leastBlocks = 14;
        check.same("a root of two entries and 13 empty ones", v.make().load().items(), 0);
    }

    static void promise7_theFirstTwoAreNoItems(Check check) {
        check.same("the small volume's root", Volumes.small().make().load().items(), 4);
        VolumeMaker v = Volumes.small();
        v.root.dotAlone = true;
        check.same("where '..' is in the second block", v.make().load().items(), 4);
    }

    static void promise7_emptyEntriesAreNoItems(Check check) {
        VolumeMaker v = Volumes.small();
        v.root.gaps = true;
        check.same("an empty entry before each item", v.make().load().items(), 4);
        v = new VolumeMaker(128, 64, 16);
        v.root.gaps = true;
        v.file(v.root, "one", 12, 5);
        v.root.leastBlocks = 2;
        check.same("one item and two empty entries", v.make().load().items(), 1);
    }

    static void promise7_asManyAsABlockHolds(Check check) {
        VolumeMaker v = new VolumeMaker(128, 64, 64);
        for (int i = 0; i < 83; i++) {
            v.file(v.root, "f" + i, 12 + i, 0);
        }
        v.make();
        check.same("the root's size", v.root.size, 1024);
        check.same("items", v.load().items(), 83);
    }

    static void promise7_itemsOfAllBlocks(Check check) {
        VolumeMaker v = new VolumeMaker(256, 128, 64);
        for (int i = 0; i < 60; i++) {
            v.file(v.root, "x".repeat(250), 12 + i, 0);
        }
        v.make();
        check.yes("the root has an indirect block", v.root.size > 13 * 1024);
        check.same("items", v.load().items(), 60);
    }

    static void promise7_itemsBehindEmptyBlocks(Check check) {
        VolumeMaker v = Volumes.small();
        v.root.leastBlocks = 3;
        v.make();
        int last = 1024 * v.root.blocks.get(2);
        int from = v.entryPlace(v.root, Volumes.EMPTY_FILE);
        v.poke(last, 4, 15);
        v.poke(last + 6, 2, 2 | 1 << 8);
        v.poke(last + 8, 2, 'h' | 'i' << 8);
        v.poke(from, 4, 0);
        Volumes.judge(check, "the last item is in the last block", 0, v);
        InodeVolumes x = v.load();
        check.same("items", x.items(), 4);
        check.same("its inode", x.about(3, 0), 15);
        check.same("its name", x.letter(3, 0), 'h');
    }

    static void promise7_ofTheDirectoryHere(Check check) {
        InodeVolumes x = Volumes.small().make().load();
        check.same("the root at first", x.items(), 4);
        x.enter(Volumes.SUB);
        check.same("sub", x.items(), 2);
        x.enter(Volumes.DEEP);
        check.same("deep", x.items(), 0);
        check.same("deep again", x.items(), 0);
        x.up();
        check.same("sub again", x.items(), 2);
        x.put(0, 1, 0);
        check.same("the root behind a put", x.items(), 4);
    }

    static void promise7_throwsWithAFault(Check check) {
        for (InodeVolumes x : Volumes.unsound()) {
            check.raises("fault " + x.fault(), Volumes.STATE, () -> x.items());
        }
    }

    static void promise7_answersAgainWhenTheFaultIsMended(Check check) {
        VolumeMaker v = Volumes.small().make();
        InodeVolumes x = v.load();
        x.enter(Volumes.SUB);
        x.put(v.inodePlace(12) + 26, 2, 2);
        check.raises("with a fault", Volumes.STATE, () -> x.items());
        x.put(v.inodePlace(12) + 26, 2, 1);
        check.same("mended, at the root", x.items(), 4);
    }
}
