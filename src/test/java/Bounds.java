import java.util.TreeSet;
import java.util.function.Supplier;

/** The means of the boundary tests: each call is tried on an object that is made anew. */
final class Bounds {
    /** A call on an object. */
    interface Call {
        int on(TiltLists x);
    }

    /** A call of whose numbers one is tried out. */
    interface CallWith {
        int on(TiltLists x, int v);
    }

    /**
     * All numbers near those that the document names, and those that would look
     * like small ones if a sum, a product, a shift or a byte of them wrapped around.
     */
    static final int[] EDGES = edges();

    private final Check check;

    Bounds(String test) {
        check = new Check(test);
    }

    private static int[] edges() {
        TreeSet<Integer> all = new TreeSet<>();
        for (int v = -8; v <= 64; v++) {
            all.add(v);
        }
        for (int bit = 6; bit < 32; bit++) {
            for (int off = -1; off <= 1; off++) {
                all.add((1 << bit) + off);
                all.add(off - (1 << bit));
            }
        }
        for (int v : new int[] {-1000000, -100, 99, 100, 101, 110, 1000000}) {
            all.add(v);
        }
        return all.stream().mapToInt(Integer::intValue).toArray();
    }

    void due(String what, long got, long want) {
        check.due(what, got, want);
    }

    void end() {
        check.end();
    }

    /** The call is refused so, and changes nothing. */
    void refused(String what, Supplier<TiltLists> setting, int refusal, Call call) {
        TiltLists x = setting.get();
        due(what, call.on(x), refusal);
        unchanged(what, setting, x);
    }

    /** An object holds what the setting gave it. */
    void unchanged(String what, Supplier<TiltLists> setting, TiltLists x) {
        String want = Readout.of(setting.get());
        String got = Readout.of(x);
        due(what + " changes nothing" + firstUnlike(got, want), got.equals(want) ? 1 : 0, 1);
    }

    private static String firstUnlike(String got, String want) {
        String[] left = got.split("\n");
        String[] right = want.split("\n");
        for (int i = 0; i < left.length && i < right.length; i++) {
            if (!left[i].equals(right[i])) {
                return ", but " + left[i] + " was " + right[i];
            }
        }
        return "";
    }

    /** Each edge number outside is refused so and changes nothing; none inside is refused so. */
    void range(String what, Supplier<TiltLists> setting, int least, int greatest, int refusal, CallWith call) {
        for (int v : EDGES) {
            if (v < least || v > greatest) {
                refused(what + " with " + v, setting, refusal, x -> call.on(x, v));
            } else {
                due(what + " is not refused with " + v, call.on(setting.get(), v) == refusal ? 1 : 0, 0);
            }
        }
    }
}
