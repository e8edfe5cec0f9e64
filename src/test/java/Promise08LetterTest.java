/** Promise 8: letter. */
public final class Promise08LetterTest {
    public static void main(String[] args) {
        Cases.run(Promise08LetterTest.class);
    }

    private static void nameIs(Check check, InodeVolumes x, int k, String name) {
        for (int i = 0; i < name.length(); i++) {
            check.same("letter " + i + " of item " + k, x.letter(k, i), name.charAt(i));
        }
        check.same("behind the name of item " + k, x.letter(k, name.length()), InodeVolumes.NONE);
    }

    static void promise8_theBytesOfEachName(Check check) {
        InodeVolumes x = Volumes.small().make().load();
        nameIs(check, x, Volumes.LOST, "lost+found");
        nameIs(check, x, Volumes.A, "a");
        nameIs(check, x, Volumes.SUB, "sub");
        nameIs(check, x, Volumes.EMPTY_FILE, "none");
        x.enter(Volumes.SUB);
        nameIs(check, x, Volumes.DEEP, "deep");
        nameIs(check, x, Volumes.LONG_FILE, "file with 14 blocks");
    }

    static void promise8_noneBehindTheNamesEnd(Check check) {
        InodeVolumes x = Volumes.small().make().load();
        for (int i : new int[] {1, 2, 3, 4, 5, 8, 12, 254, 255, 256, 1024, 65536, Integer.MAX_VALUE - 1,
            Integer.MAX_VALUE}) {
            check.same("letter " + i + " of a name of 1", x.letter(Volumes.A, i), InodeVolumes.NONE);
        }
    }

    /** Bytes in the entry, behind a name that does not fill it, are no letters. */
    static void promise8_noneForBytesOfTheEntryBehindTheName(Check check) {
        VolumeMaker v = Volumes.small().make();
        v.poke(v.entryPlace(v.root, Volumes.A) + 9, 3, 0x7A7A7A);
        v.poke(v.entryPlace(v.root, Volumes.EMPTY_FILE) + 12, 8, -1);
        InodeVolumes x = v.load();
        nameIs(check, x, Volumes.A, "a");
        nameIs(check, x, Volumes.EMPTY_FILE, "none");
    }

    static void promise8_aNameOf255Bytes(Check check) {
        VolumeMaker v = Volumes.small();
        StringBuilder name = new StringBuilder();
        for (int i = 0; i < 255; i++) {
            name.append((char) (i == 46 ? 'x' : i + 1));
        }
        v.file(v.root, name.toString(), 16, 0);
        InodeVolumes x = v.make().load();
        nameIs(check, x, 4, name.toString());
        check.same("the greatest byte is not NONE", x.letter(4, 254), 255);
        check.same("letter 255", x.letter(4, 255), InodeVolumes.NONE);
        check.same("letter 256", x.letter(4, 256), InodeVolumes.NONE);
    }

    /** The document has NONE behind the end alone, and no byte before the first. */
    static void promise8_throwsForAByteBeforeTheFirst(Check check) {
        InodeVolumes x = Volumes.small().make().load();
        for (int i : new int[] {-1, -2, -8, -256, Integer.MIN_VALUE, Integer.MIN_VALUE + 1}) {
            check.raises("letter " + i, Volumes.BOUNDS, () -> x.letter(Volumes.A, i));
        }
    }

    static void promise8_throwsForNoItem(Check check) {
        InodeVolumes x = Volumes.small().make().load();
        check.same("the last item", x.letter(3, 0), 'n');
        for (int k : new int[] {-1, -2, 4, 5, Integer.MIN_VALUE, Integer.MAX_VALUE}) {
            for (int i : new int[] {0, 300, -1}) {
                check.raises("letter " + i + " of item " + k, Volumes.BOUNDS, () -> x.letter(k, i));
            }
        }
    }

    static void promise8_throwsInADirectoryWithoutItems(Check check) {
        InodeVolumes x = Volumes.bare().make().load();
        check.raises("letter 0 of item 0", Volumes.BOUNDS, () -> x.letter(0, 0));
        InodeVolumes y = Volumes.inSub();
        y.enter(Volumes.DEEP);
        check.raises("letter 0 of item 0 in deep", Volumes.BOUNDS, () -> y.letter(0, 0));
    }

    static void promise8_emptyEntriesAreNotCounted(Check check) {
        VolumeMaker v = Volumes.small();
        v.root.gaps = true;
        InodeVolumes x = v.make().load();
        nameIs(check, x, Volumes.LOST, "lost+found");
        nameIs(check, x, Volumes.EMPTY_FILE, "none");
        check.raises("item 4", Volumes.BOUNDS, () -> x.letter(4, 0));
    }

    static void promise8_throwsWithAFault(Check check) {
        for (InodeVolumes x : Volumes.unsound()) {
            for (int k : new int[] {0, -1, 1000}) {
                check.raises("fault " + x.fault() + ", item " + k, Volumes.STATE, () -> x.letter(k, 0));
                check.raises("fault " + x.fault() + ", item " + k, Volumes.STATE, () -> x.letter(k, -1));
                check.raises("fault " + x.fault() + ", item " + k, Volumes.STATE, () -> x.letter(k, 500));
            }
        }
    }

    static void promise8_leavesHereAlone(Check check) {
        InodeVolumes x = Volumes.inSub();
        x.letter(Volumes.DEEP, 0);
        check.raises("item 2", Volumes.BOUNDS, () -> x.letter(2, 0));
        check.yes("HERE is sub", Volumes.isInSub(x));
    }
}
