/** Promise 12: up. */
public final class Promise12UpTest {
    public static void main(String[] args) {
        Cases.run(Promise12UpTest.class);
    }

    static void promise12_falseInTheRootWhichStaysHere(Check check) {
        InodeVolumes x = Volumes.small().make().load();
        for (int i = 0; i < 3; i++) {
            check.same("up from the root", x.up(), false);
            check.yes("HERE is the root", Volumes.isInRoot(x));
        }
        check.same("up in a root with nothing in it", Volumes.bare().make().load().up(), false);
    }

    static void promise12_theParentBecomesHere(Check check) {
        InodeVolumes x = Volumes.inSub();
        x.enter(Volumes.DEEP);
        check.same("up from deep", x.up(), true);
        check.yes("HERE is sub", Volumes.isInSub(x));
        check.same("up from sub", x.up(), true);
        check.yes("HERE is the root", Volumes.isInRoot(x));
        check.same("up from the root", x.up(), false);
    }

    /** Each directory's own parent, wherever its ".." stands. */
    static void promise12_whereDotDotIsInTheSecondBlock(Check check) {
        VolumeMaker v = Volumes.small();
        Volumes.inside(v.root, Volumes.SUB).dotAlone = true;
        Volumes.inside(v.root, Volumes.SUB, Volumes.DEEP).dotAlone = true;
        InodeVolumes x = v.make().load();
        check.same("enter sub", x.enter(Volumes.SUB), 2);
        check.same("enter deep", x.enter(Volumes.DEEP), 0);
        check.same("up from deep", x.up(), true);
        check.yes("HERE is sub", Volumes.isInSub(x));
        check.same("up from sub", x.up(), true);
        check.yes("HERE is the root", Volumes.isInRoot(x));
    }

    static void promise12_fromManyLevelsBelow(Check check) {
        VolumeMaker v = new VolumeMaker(128, 64, 32);
        VolumeMaker.Node n = v.root;
        for (int i = 0; i < 25; i++) {
            n = v.directory(n, "d", 64 - i);
        }
        Renewed x = new Renewed(v.make());
        for (int i = 0; i < 25; i++) {
            check.same("enter level " + (i + 1), x.enter(0), i < 24 ? 1 : 0);
        }
        for (int i = 25; i > 0; i--) {
            check.same("up from level " + i, x.up(), true);
            check.same("the item of level " + (i - 1), x.about(0, 0), 65 - i);
        }
        check.same("up from the root", x.up(), false);
    }

    static void promise12_falseBehindEachCallThatMakesTheRootHere(Check check) {
        for (int call = 0; call < 3; call++) {
            InodeVolumes x = Volumes.inSub();
            boolean done = call == 0 ? x.put(0, 1, 0) : call == 1 ? x.fill(0, 1, 0) : x.copy(0, 1, 1);
            check.same("call " + call, done, true);
            check.same("up behind call " + call, x.up(), false);
        }
    }

    static void promise12_trueBehindEachRefusedCall(Check check) {
        for (int call = 0; call < 3; call++) {
            InodeVolumes x = Volumes.inSub();
            boolean done = call == 0 ? x.put(0, 0, 0) : call == 1 ? x.fill(0, -1, 0) : x.copy(-1, 0, 1);
            check.same("call " + call, done, false);
            check.same("up behind call " + call, x.up(), true);
            check.same("up again", x.up(), false);
        }
    }

    static void promise12_throwsWithAFault(Check check) {
        for (InodeVolumes x : Volumes.unsound()) {
            check.raises("fault " + x.fault(), Volumes.STATE, () -> x.up() ? 1 : 0);
        }
    }
}
