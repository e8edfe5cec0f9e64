/** Promise 11: enter. */
public final class Promise11EnterTest {
    public static void main(String[] args) {
        Cases.run(Promise11EnterTest.class);
    }

    static void promise11_theDirectoryBecomesHere(Check check) {
        InodeVolumes x = Volumes.small().make().load();
        check.same("enter sub", x.enter(Volumes.SUB), 2);
        check.yes("HERE is sub", Volumes.isInSub(x));
        check.same("enter deep", x.enter(Volumes.DEEP), 0);
        check.same("items of deep", x.items(), 0);
        check.same("up", x.up(), true);
        check.yes("HERE is sub again", Volumes.isInSub(x));
    }

    static void promise11_answersHowManyItemsItHas(Check check) {
        for (int count : new int[] {0, 1, 2, 82, 83, 84}) {
            VolumeMaker v = new VolumeMaker(128, 256, 128);
            VolumeMaker.Node d = v.directory(v.root, "d", 12);
            for (int k = 0; k < count; k++) {
                v.file(d, "f" + k, 13 + k, 0);
            }
            Renewed x = new Renewed(v.make());
            check.same("its blocks", d.blocks.size(), count > 83 ? 2 : 1);
            check.same("enter a directory of " + count, x.enter(0), count);
            check.same("items", x.items(), count);
        }
    }

    static void promise11_aDirectoryWithNothingInItAnswers0(Check check) {
        InodeVolumes x = Volumes.small().make().load();
        check.same("lost+found, with a block of an empty entry", x.enter(Volumes.LOST), 0);
        check.same("items", x.items(), 0);
    }

    static void promise11_emptyEntriesAreNotCounted(Check check) {
        VolumeMaker v = Volumes.small();
        v.root.gaps = true;
        Volumes.inside(v.root, Volumes.SUB).gaps = true;
        InodeVolumes x = v.make().load();
        check.same("enter sub", x.enter(Volumes.SUB), 2);
        check.same("enter deep", x.enter(Volumes.DEEP), 0);
    }

    static void promise11_throwsForAFile(Check check) {
        InodeVolumes x = Volumes.small().make().load();
        check.raises("a file", Volumes.ARGUMENT, () -> x.enter(Volumes.A));
        check.yes("HERE is the root still", Volumes.isInRoot(x));
        check.raises("a file of no size", Volumes.ARGUMENT, () -> x.enter(Volumes.EMPTY_FILE));
        check.yes("HERE is the root still", Volumes.isInRoot(x));
        x.enter(Volumes.SUB);
        check.raises("a file in sub", Volumes.ARGUMENT, () -> x.enter(Volumes.LONG_FILE));
        check.yes("HERE is sub still", Volumes.isInSub(x));
    }

    static void promise11_throwsForNoItem(Check check) {
        InodeVolumes x = Volumes.inSub();
        for (int k : new int[] {-1, -2, 2, 3, Integer.MIN_VALUE, Integer.MAX_VALUE}) {
            check.raises("item " + k, Volumes.BOUNDS, () -> x.enter(k));
            check.yes("HERE is sub still", Volumes.isInSub(x));
        }
    }

    /** The entries "." and ".." are no items, so that they can not be entered. */
    static void promise11_throwsInADirectoryWithoutItems(Check check) {
        InodeVolumes x = Volumes.inSub();
        x.enter(Volumes.DEEP);
        for (int k : new int[] {-2, -1, 0, 1}) {
            check.raises("item " + k, Volumes.BOUNDS, () -> x.enter(k));
            check.same("HERE is deep still", x.items(), 0);
        }
        InodeVolumes bare = Volumes.bare().make().load();
        check.raises("item 0", Volumes.BOUNDS, () -> bare.enter(0));
    }

    static void promise11_throwsWithAFault(Check check) {
        for (InodeVolumes x : Volumes.unsound()) {
            for (int k : new int[] {0, 1, 2, -1, 1000}) {
                check.raises("fault " + x.fault() + ", item " + k, Volumes.STATE, () -> x.enter(k));
            }
        }
    }
}
