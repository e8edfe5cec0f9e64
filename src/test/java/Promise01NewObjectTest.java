/** Promise 1: B is blocks, 128 if that is less, 512 if it is more; all bytes are 0 at first. */
public final class Promise01NewObjectTest {
    public static void main(String[] args) {
        Cases.run(Promise01NewObjectTest.class);
    }

    /** The disk ends behind B blocks, for each call that has a place. */
    private static void hasBlocks(Check check, int wanted, int blocks) {
        InodeVolumes x = new InodeVolumes(wanted);
        String who = "of " + wanted + ": ";
        int end = 1024 * blocks;
        check.same(who + "its last byte", x.byteAt(end - 1), 0);
        check.same(who + "behind its last byte", x.byteAt(end), InodeVolumes.NONE);
        check.same(who + "put on its last byte", x.put(end - 1, 1, 5), true);
        check.same(who + "put behind it", x.put(end, 1, 5), false);
        check.same(who + "fill all", x.fill(0, end, 9), true);
        check.same(who + "fill one more", x.fill(0, end + 1, 9), false);
        check.same(who + "copy all", x.copy(0, 0, end), true);
        check.same(who + "copy one more", x.copy(0, 0, end + 1), false);
    }

    static void promise1_blocksAreAsManyAsAskedFor(Check check) {
        for (int blocks = 128; blocks <= 512; blocks++) {
            hasBlocks(check, blocks, blocks);
        }
    }

    static void promise1_fewerThan128BlocksBecome128(Check check) {
        for (int blocks : new int[] {127, 126, 64, 1, 0, -1, -128, -512, Integer.MIN_VALUE, Integer.MIN_VALUE + 1}) {
            hasBlocks(check, blocks, 128);
        }
    }

    static void promise1_moreThan512BlocksBecome512(Check check) {
        for (int blocks : new int[] {513, 514, 1024, 65536, Integer.MAX_VALUE - 1, Integer.MAX_VALUE}) {
            hasBlocks(check, blocks, 512);
        }
    }

    /** The superblock has B at 4 (4): a volume of 128 blocks stands on a disk that was asked for with less. */
    static void promise1_theVolumeHasTheBlocksThatTheDiskHas(Check check) {
        int[][] asked = {{128, 127}, {128, Integer.MIN_VALUE}, {512, 513}, {512, Integer.MAX_VALUE}};
        for (int[] a : asked) {
            VolumeMaker v = new VolumeMaker(a[0], 256, 8).make();
            check.same("a volume of " + a[0] + ", asked for " + a[1], v.loadInto(new InodeVolumes(a[1])).fault(), 0);
            check.same("the same on one block more or less",
                    v.loadInto(new InodeVolumes(a[0] == 128 ? 129 : 511)).fault(), 1);
        }
    }

    /** An object for each 512 bytes, since it is used for 512 calls. */
    static void promise1_allBytesAre0AtFirst(Check check) {
        for (int blocks : new int[] {128, 512}) {
            InodeVolumes x = null;
            for (int at = 0; at < 1024 * blocks; at++) {
                if (at % 512 == 0) {
                    x = new InodeVolumes(blocks);
                }
                check.same("byte " + at, x.byteAt(at), 0);
            }
        }
    }

    static void promise1_aNewObjectHasTheFirstFault(Check check) {
        for (int blocks : new int[] {0, 128, 300, 512, 1000}) {
            check.same("a new object of " + blocks, new InodeVolumes(blocks).fault(), 1);
        }
    }

    static void promise1_objectsHaveDisksOfTheirOwn(Check check) {
        InodeVolumes one = new InodeVolumes(128);
        InodeVolumes other = new InodeVolumes(128);
        check.same("fill one", one.fill(0, 1024 * 128, 7), true);
        check.same("the other's byte", other.byteAt(5), 0);
        InodeVolumes sound = Volumes.small().make().load();
        InodeVolumes inside = Volumes.inSub();
        check.yes("one is at its root while another one is in sub", Volumes.isInRoot(sound));
        check.yes("and the other way round", Volumes.isInSub(inside));
        check.same("the other's fault", other.fault(), 1);
    }

    static void promise1_the512thCallIsAnswered(Check check) {
        VolumeMaker v = Volumes.small().make();
        InodeVolumes x = v.load();
        check.same("enter", x.enter(Volumes.SUB), 2);
        for (int call = v.calls() + 2; call < 512; call++) {
            check.same("call " + call, x.items(), 2);
        }
        check.same("call 512", x.about(Volumes.LONG_FILE, 2), 13 * 1024 + 1);
    }
}
