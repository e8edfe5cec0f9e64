import java.util.ArrayList;
import java.util.List;

/**
 * A volume that is read by any number of calls: an object is used for 512 calls, so that a new one with the same
 * volume takes its place then, and enters the directories that the one before had entered.
 */
final class Renewed {
    static final int MOST_CALLS = 512;

    private final VolumeMaker volume;
    private final List<Integer> path = new ArrayList<>();
    private InodeVolumes x;
    private int calls;

    Renewed(VolumeMaker volume) {
        this.volume = volume;
        renew();
    }

    private void renew() {
        x = volume.load();
        calls = volume.calls();
        for (int k : path) {
            x.enter(k);
            calls++;
        }
        if (calls >= MOST_CALLS) {
            throw new IllegalStateException("the volume takes " + calls + " calls");
        }
    }

    /** The object for one call. */
    private InodeVolumes next() {
        if (calls == MOST_CALLS) {
            renew();
        }
        calls++;
        return x;
    }

    int fault() {
        return next().fault();
    }

    int items() {
        return next().items();
    }

    int letter(int k, int i) {
        return next().letter(k, i);
    }

    long about(int k, int what) {
        return next().about(k, what);
    }

    int content(int k, int at) {
        return next().content(k, at);
    }

    int enter(int k) {
        int items = next().enter(k);
        path.add(k);
        return items;
    }

    boolean up() {
        boolean done = next().up();
        if (done) {
            path.remove(path.size() - 1);
        }
        return done;
    }
}
