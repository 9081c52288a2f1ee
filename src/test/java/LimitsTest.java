import java.util.ArrayList;
import java.util.List;
import java.util.TreeSet;
import java.util.function.Supplier;

/**
 * Every argument of every call at the limits that the document gives it: the last values that are allowed, the first
 * ones that are not, and some far out, in all their combinations; where nothing is there yet, in a small network, and
 * where all places are taken. BAD is due if one argument is out of range, whatever else stands against the call.
 */
public final class LimitsTest {
    private static final int BAD = -2;
    private static final String[] CALLS = {"area", "wants", "line", "mood", "site", "rooms", "steps", "drains", "cuts",
        "far", "of", "siteOf", "seems", "opens", "session", "ends", "ticks", "plan", "order", "worst", "type", "told"};

    private final String name;
    private final Supplier<AnySites> maker;
    private final List<Long> leftAlone;
    private final int areas;
    private final int sites;
    private final int sessions;

    private LimitsTest(String name, Supplier<AnySites> maker) {
        this.name = name;
        this.maker = maker;
        leftAlone = Twins.tail(maker.get());
        areas = maker.get().told(4);
        sites = maker.get().told(5);
        sessions = maker.get().told(6);
    }

    public static void main(String[] args) {
        new LimitsTest("nothing there yet", AnySites::new).everyCall();
        new LimitsTest("a small network", Networks::small).everyCall();
        new LimitsTest("all places taken", Networks::full).everyCall();
        Runs.finish();
    }

    private void everyCall() {
        for (String call : CALLS) {
            combine(call, ranges(call), new ArrayList<>());
        }
    }

    /** From and to of each argument; a range that ends before it begins has no value. */
    private int[][] ranges(String call) {
        int[] area = {0, areas - 1};
        int[] site = {0, sites - 1};
        switch (call) {
            case "area":
                return new int[][] {{0, 99}};
            case "wants":
                return new int[][] {area, {0, 99}};
            case "line":
                return new int[][] {area, area, {0, 9}};
            case "mood":
                return new int[][] {area, {0, 2}};
            case "site":
                return new int[][] {area, {0, 999}};
            case "rooms":
                return new int[][] {site, {0, 999}};
            case "steps":
                return new int[][] {site, {0, 4}};
            case "drains":
            case "cuts":
                return new int[][] {site};
            case "far":
                return new int[][] {area, area};
            case "of":
                return new int[][] {area, {0, 5}};
            case "siteOf":
                return new int[][] {site, {0, 9}};
            case "seems":
                return new int[][] {area, site};
            default:
                return laterRanges(call, area);
        }
    }

    private int[][] laterRanges(String call, int[] area) {
        switch (call) {
            case "opens":
                return new int[][] {area, {1, 9}, {1, 30}};
            case "session":
                return new int[][] {{0, Integer.MAX_VALUE}, {0, 4}};
            case "ends":
                return new int[][] {{0, sessions - 1}};
            case "ticks":
                return new int[][] {{1, 30}};
            case "plan":
                return new int[][] {{-1, sites - 1}};
            case "order":
                return new int[][] {{1, (1 << sites) - 1}, {0, Integer.MAX_VALUE}};
            case "worst":
                return new int[][] {{1, 2}, {0, 1}};
            case "type":
                return new int[][] {{0, 127}};
            case "told":
                return new int[][] {{0, 12}};
            default:
                throw new IllegalStateException(call);
        }
    }

    /** The edges of the range, and values that would look like allowed ones if they were cut to fewer bits. */
    private static List<Integer> edges(int[] range) {
        TreeSet<Integer> values = new TreeSet<>();
        for (long v : new long[] {range[0] - 1L, range[0], range[1], range[1] + 1L, range[0] + 32L, range[0] + 65536L,
            Integer.MIN_VALUE, Integer.MAX_VALUE}) {
            if (v == (int) v) {
                values.add((int) v);
            }
        }
        return new ArrayList<>(values);
    }

    private void combine(String call, int[][] ranges, List<Integer> values) {
        if (values.size() == ranges.length) {
            check(call, ranges, values);
            return;
        }
        for (int v : edges(ranges[values.size()])) {
            List<Integer> longer = new ArrayList<>(values);
            longer.add(v);
            combine(call, ranges, longer);
        }
    }

    private void check(String call, int[][] ranges, List<Integer> values) {
        boolean allowed = !call.equals("line") || !values.get(0).equals(values.get(1));
        for (int i = 0; i < ranges.length; i++) {
            allowed &= values.get(i) >= ranges[i][0] && values.get(i) <= ranges[i][1];
        }
        String arguments = values.toString().replaceAll("[\\[\\]]", "");
        String written = call + "(" + arguments + ")";
        if (!allowed) {
            Twins.refused(name, maker, leftAlone, written, BAD);
            return;
        }
        AnySites x = maker.get();
        int before = x.told(0);
        Runs.holds(name + ": " + written + " is not out of range", Runs.answer(x, call, arguments) != BAD);
        Runs.due(name + ", behind " + written, "told(0)", x.told(0), before);
    }
}
