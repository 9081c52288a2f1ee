import java.util.ArrayList;
import java.util.List;
import java.util.function.Supplier;

/**
 * Two objects made by the same calls: one call more on one of them shows what that call changes.
 * All that can be told of an object is compared, the states behind it and the text in its buffer as well.
 */
final class Twins {
    private static final int BAD = -2;

    private Twins() {
    }

    /** The call answers the error code, is counted once by it, and changes nothing else. */
    static void refused(String title, Supplier<AnySites> maker, String call, int code) {
        refused(title, maker, tail(maker.get()), call, code);
    }

    /** The same, with the tail of an object that was left alone, so that it is not told again for many calls. */
    static void refused(String title, Supplier<AnySites> maker, List<Long> due, String call, int code) {
        AnySites x = maker.get();
        int[] before = errors(x);
        Runs.go(x, title, call + " = " + code);
        int[] after = errors(x);
        for (int k = 0; k < before.length; k++) {
            Runs.due(title + ", behind " + call, "told(" + k + ")", after[k], before[k] + (k == BAD - code ? 1 : 0));
        }
        Runs.holds(title + ": nothing else changes by " + call, tail(x).equals(due));
    }

    /** The call, written with its answer, changes nothing and counts nothing. */
    static void silent(String title, Supplier<AnySites> maker, String call) {
        AnySites x = maker.get();
        long before = x.digest();
        Runs.go(x, title, call);
        Runs.due(title + ", behind " + call, "digest()", x.digest(), before);
        Runs.holds(title + ": nothing changes by " + call, tail(x).equals(tail(maker.get())));
    }

    /** The call, written with its answer, leaves one state, to which back() returns. */
    static void act(String title, Supplier<AnySites> maker, String call) {
        AnySites x = maker.get();
        int kept = x.told(12);
        AnySites twin = maker.get();
        Runs.go(x, title, call);
        Runs.due(title + ", behind " + call, "told(12)", x.told(12), Math.min(kept + 1, 5));
        Runs.due(title + ", behind " + call, "back()", x.back(), Math.min(kept, 4));
        Runs.due(title + ", taken back: " + call, "the state", stateOf(x), stateOf(twin));
        for (int k = x.told(12); k > 0; k--) {
            x.back();
            twin.back();
            Runs.due(title + ", a state before " + call, "the state", stateOf(x), stateOf(twin));
        }
    }

    private static int[] errors(AnySites x) {
        return new int[] {x.told(0), x.told(1), x.told(2)};
    }

    /** What can be told of the object now, of every state behind it, and of what its text does in the end. */
    static List<Long> tail(AnySites x) {
        List<Long> all = new ArrayList<>();
        all.add(withoutErrors(x));
        for (int k = x.told(12); k > 0; k--) {
            all.add((long) x.back());
            all.add(withoutErrors(x));
        }
        all.add((long) x.reads());
        all.add(withoutErrors(x));
        return all;
    }

    private static long withoutErrors(AnySites x) {
        return digestWithout(x, 0, 1, 2);
    }

    /** What a state holds: no errors, no buffer, and not how many states are kept. */
    private static long stateOf(AnySites x) {
        return digestWithout(x, 0, 1, 2, 3, 12);
    }

    /** The digest as if these counts were 0: they are its first values. */
    private static long digestWithout(AnySites x, int... counts) {
        int areas = x.told(4);
        int values = 13 + 6 * areas + areas * (areas - 1) + 10 * x.told(5) + 5 * x.told(6);
        long h = x.digest();
        for (int k : counts) {
            h -= x.told(k) * power(values - 1 - k);
        }
        return h;
    }

    private static long power(int exponent) {
        long p = 1;
        for (int i = 0; i < exponent; i++) {
            p *= 31;
        }
        return p;
    }
}
