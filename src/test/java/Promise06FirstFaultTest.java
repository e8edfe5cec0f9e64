/** Promise 6: of several faults the first; and which of 4 and 5 comes first. */
public final class Promise06FirstFaultTest {
    public static void main(String[] args) {
        Cases.run(Promise06FirstFaultTest.class);
    }

    /** Each set of faults at once, 255 of them. */
    static void promise6_first_ofAnyFaultsTogether(Check check) {
        for (int set = 1; set < 256; set++) {
            VolumeMaker v = Volumes.small().make();
            for (int fault = 1; fault <= 8; fault++) {
                if (fault != 2 && (set >> fault - 1 & 1) != 0) {
                    Volumes.bring(v, fault);
                }
            }
            v.mirror();
            if ((set & 2) != 0) {
                Volumes.bring(v, 2);
            }
            Volumes.judge(check, "faults " + Integer.toBinaryString(set), 1 + Integer.numberOfTrailingZeros(set), v);
        }
    }

    static void promise6_first_theRootsWholenessBeforeItsEntries(Check check) {
        Volumes.expect(check, "4 and 5 of the root", 4, v -> {
            Volumes.bring(v, 4);
            Volumes.bring(v, 5);
        });
    }

    static void promise6_first_aDirectorysEntriesBeforeItsItemsWholeness(Check check) {
        Volumes.expect(check, "the second item is not whole, the last entry is not as told", 5, v -> {
            v.poke(v.inodePlace(12) + 96, 4, 1);
            Volumes.bring(v, 5);
        });
        Volumes.expect(check, "an item is the root, the last entry is not as told", 5, v -> {
            v.poke(v.entryPlace(v.root, Volumes.LOST), 4, 2);
            Volumes.bring(v, 5);
        });
    }

    static void promise6_first_theItemsWholenessBeforeTheEntriesOfDirectoriesAmongThem(Check check) {
        Volumes.expect(check, "the last item is not whole, the first one's entries are not as told", 4, v -> {
            v.poke(v.inodePlace(15) + 96, 4, 1);
            v.poke(v.entryPlace(Volumes.inside(v.root, Volumes.LOST), -2) + 7, 1, 1);
        });
    }

    static void promise6_first_theEntriesOfADirectoryThatCameBefore(Check check) {
        Volumes.expect(check, "lost+found's entries, and sub's items", 5, v -> {
            v.poke(v.entryPlace(Volumes.inside(v.root, Volumes.LOST), -1) + 7, 1, 1);
            v.poke(v.inodePlace(14) + 96, 4, 1);
        });
    }

    static void promise6_first_theItemsOfADirectoryThatCameBefore(Check check) {
        Volumes.expect(check, "sub's items, and the entries of deep in it", 4, v -> {
            v.poke(v.inodePlace(14) + 96, 4, 1);
            v.poke(v.entryPlace(Volumes.inside(v.root, Volumes.SUB, Volumes.DEEP), -1) + 7, 1, 1);
        });
    }

    /** All items of the root came before those in its first directory. */
    static void promise6_first_directoriesInTheOrderInWhichTheyCame(Check check) {
        VolumeMaker v = new VolumeMaker(128, 64, 16);
        VolumeMaker.Node first = v.directory(v.root, "first", 14);
        VolumeMaker.Node inFirst = v.directory(first, "in first", 12);
        VolumeMaker.Node second = v.directory(v.root, "second", 13);
        v.file(second, "file", 15, 1);
        v.make();
        v.poke(v.entryPlace(inFirst, -2) + 7, 1, 1);
        v.poke(v.inodePlace(15) + 96, 4, 1);
        Volumes.judge(check, "an item of second, and the entries of the one in first", 4, v);
    }

    /** A block that two have is found with the one that came later; what is wrong with it before that counts. */
    static void promise6_first_aBlockOfTwoIsFoundWithTheLater(Check check) {
        Volumes.expect(check, "14's block is 20's, and lost+found's entries are not as told", 5, v -> {
            v.poke(v.inodePlace(14) + 40, 4, v.peek(v.inodePlace(20) + 40, 4));
            v.poke(v.entryPlace(Volumes.inside(v.root, Volumes.LOST), -1) + 7, 1, 1);
        });
        Volumes.expect(check, "15's block is 12's, and lost+found's entries are not as told", 4, v -> {
            v.poke(v.inodePlace(15) + 4, 4, 1);
            v.poke(v.inodePlace(15) + 28, 4, 2);
            v.poke(v.inodePlace(15) + 40, 4, v.peek(v.inodePlace(12) + 40, 4));
            v.poke(v.entryPlace(Volumes.inside(v.root, Volumes.LOST), -1) + 7, 1, 1);
        });
    }

    static void promise6_first_entriesOfTheLastDirectoryBeforeTheRootsLinks(Check check) {
        Volumes.expect(check, "5 of deep, 6 of the root", 5, v -> {
            v.poke(v.inodePlace(2) + 26, 2, 2);
            v.poke(v.entryPlace(Volumes.inside(v.root, Volumes.SUB, Volumes.DEEP), -2) + 7, 1, 1);
        });
    }
}
