/** Promise 6, fault 6: the links of the root and of those that came up. */
public final class Promise06Fault6LinksTest {
    public static void main(String[] args) {
        Cases.run(Promise06Fault6LinksTest.class);
    }

    private static void mustBe(Check check, int inode, int due) {
        VolumeMaker made = Volumes.small().make();
        check.same("links of " + inode, made.peek(made.inodePlace(inode) + 26, 2), due);
        for (int n : new int[] {0, 1, 2, 3, 4, 5, due + 256, due + 32768, 65535}) {
            Volumes.expect(check, "inode " + inode + " with " + n + " links", n == due ? 0 : 6,
                    v -> v.poke(v.inodePlace(inode) + 26, 2, n));
        }
    }

    static void promise6_fault6_aFileHas1(Check check) {
        mustBe(check, 12, 1);
        mustBe(check, 14, 1);
        mustBe(check, 15, 1);
    }

    static void promise6_fault6_aDirectoryWithoutDirectoriesHas2(Check check) {
        mustBe(check, 11, 2);
        mustBe(check, 13, 2);
    }

    static void promise6_fault6_oneMoreForEachDirectoryInIt(Check check) {
        mustBe(check, 20, 3);
    }

    static void promise6_fault6_theRoot(Check check) {
        mustBe(check, 2, 4);
        VolumeMaker v = Volumes.bare().make();
        check.same("links of a root with nothing in it", v.peek(v.inodePlace(2) + 26, 2), 2);
        for (int n : new int[] {0, 1, 3}) {
            v.poke(v.inodePlace(2) + 26, 2, n);
            Volumes.judge(check, "a root with nothing in it, with " + n + " links", 6, v);
        }
    }

    /** Not the directories further below, and no files. */
    static void promise6_fault6_onlyDirectoriesRightInIt(Check check) {
        VolumeMaker v = new VolumeMaker(128, 256, 64);
        VolumeMaker.Node top = v.directory(v.root, "top", 12);
        for (int i = 0; i < 20; i++) {
            v.directory(top, "d" + i, 20 + i);
            v.file(top, "f" + i, 41 + i, 0);
        }
        v.directory(Volumes.inside(top, 6), "below", 13);
        v.make();
        check.same("links of top", v.peek(v.inodePlace(12) + 26, 2), 22);
        Volumes.judge(check, "20 directories and 20 files", 0, v);
        for (int n : new int[] {2, 3, 21, 23, 42}) {
            v.poke(v.inodePlace(12) + 26, 2, n);
            Volumes.judge(check, n + " links", 6, v);
        }
    }
}
