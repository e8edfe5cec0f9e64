/** Promise 5: byteAt. */
public final class Promise05ByteAtTest {
    public static void main(String[] args) {
        Cases.run(Promise05ByteAtTest.class);
    }

    static void promise5_everyValueOfAByte(Check check) {
        for (int place : new int[] {0, 4099, Bytes.END - 1}) {
            InodeVolumes x = new InodeVolumes(128);
            for (int value = 0; value < 256; value++) {
                x.put(place, 1, value);
                check.same("value " + value + " at " + place, x.byteAt(place), value);
            }
        }
    }

    static void promise5_everyPlaceInAWord(Check check) {
        InodeVolumes x = new InodeVolumes(128);
        x.put(2000, 8, 0xF8F7F6F5F4F3F2F1L);
        for (int i = 0; i < 8; i++) {
            check.same("byte " + i, x.byteAt(2000 + i), 0xF1 + i);
        }
    }

    static void promise5_noneBeforeTheFirstByte(Check check) {
        InodeVolumes x = Bytes.ground();
        check.same("byte 0", x.byteAt(0), Bytes.GROUND);
        for (int at : new int[] {-1, -2, -8, -1024, Integer.MIN_VALUE, Integer.MIN_VALUE + 1}) {
            check.same("byte " + at, x.byteAt(at), InodeVolumes.NONE);
        }
    }

    static void promise5_noneBehindTheLastByte(Check check) {
        InodeVolumes x = Bytes.ground();
        check.same("the last byte", x.byteAt(Bytes.END - 1), Bytes.GROUND);
        for (int at : new int[] {Bytes.END, Bytes.END + 1, 2 * Bytes.END, 512 * 1024, Integer.MAX_VALUE}) {
            check.same("byte " + at, x.byteAt(at), InodeVolumes.NONE);
        }
        InodeVolumes most = new InodeVolumes(512);
        check.same("the last byte of 512 blocks", most.byteAt(512 * 1024 - 1), 0);
        check.same("behind 512 blocks", most.byteAt(512 * 1024), InodeVolumes.NONE);
    }

    static void promise5_leavesHereAlone(Check check) {
        InodeVolumes x = Volumes.inSub();
        check.same("byte 0", x.byteAt(0), 0);
        check.same("byte -1", x.byteAt(-1), InodeVolumes.NONE);
        check.yes("HERE is sub", Volumes.isInSub(x));
    }
}
