/** As many areas, sites and sessions as there can be, and every call with arguments far out of range. */
public final class FullTest {
    private static final String[] CALLS = {"area", "wants", "line", "mood", "site", "rooms", "steps", "drains", "cuts",
        "far", "of", "siteOf", "seems", "opens", "session", "ends", "ticks", "plan", "order", "worst", "type", "told"};
    private static final int[] PARAMETERS = {1, 2, 3, 2, 2, 2, 2, 1, 1, 2, 2, 2, 2, 3, 2, 1, 1, 1, 2, 2, 1, 1};
    private static final int[] FAR_OUT = {Integer.MIN_VALUE, -1000, -5, 1000, Integer.MAX_VALUE};

    public static void main(String[] args) {
        everyQuestion();
        farOut(new AnySites());
        farOut(full());
        Runs.finish();
    }

    /** A ring of eight areas with demands 1, 2, 4 and so on, so that a load tells whose it is. */
    private static AnySites full() {
        return Runs.run("full",
                "area(1) = 0; area(2) = 1; area(4) = 2; area(8) = 3; area(16) = 4; area(32) = 5; area(64) = 6; area(99) = 7;",
                "line(0, 1, 1) = 0; line(1, 2, 1) = 0; line(2, 3, 1) = 0; line(3, 4, 1) = 0; line(4, 5, 1) = 0;",
                "line(5, 6, 1) = 0; line(6, 7, 1) = 0; line(7, 0, 1) = 0;",
                "site(0, 102) = 0; site(2, 12) = 1; site(4, 48) = 2; site(6, 64) = 3; site(7, 99) = 4;",
                "opens(0, 1, 1) = 1; opens(1, 1, 2) = 2; opens(2, 1, 3) = 3; opens(3, 1, 4) = 4; opens(4, 1, 5) = 5;",
                "opens(5, 1, 6) = 6; opens(6, 1, 7) = 7; opens(7, 1, 8) = 8; opens(7, 1, 9) = 9; opens(7, 1, 10) = 10;",
                "opens(7, 1, 11) = 11; opens(7, 1, 12) = 12");
    }

    private static void everyQuestion() {
        Runs.go(full(), "full: every question",
                "area(1) = -4; site(0, 1) = -4; opens(0, 1, 1) = -4; siteOf(0, 4) = 3; siteOf(1, 4) = 12; siteOf(2, 4) = 48;",
                "siteOf(3, 4) = 64; siteOf(4, 4) = 99; siteOf(4, 6) = 128; siteOf(2, 6) = 48; siteOf(4, 7) = 5; of(7, 5) = 5;",
                "of(7, 4) = 5; siteOf(4, 9) = 1; siteOf(3, 9) = 0; plan(-1) = 0; plan(4) = 0; worst(1, 0) = 64;",
                "worst(1, 1) = 8; worst(2, 0) = 112; worst(2, 1) = 12; order(31, 0) = -1; order(16, 0) = 4; order(17, 0) = -1;",
                "far(0, 4) = 4; far(7, 3) = 4; seems(3, 4) = 4; lays() = 0; drains(4) = 1; drains(3) = 2; drains(2) = 3;",
                "drains(1) = 4; drains(0) = 5; ticks(1) = 1; siteOf(4, 2) = 1; told(11) = 5; ends(10) = 10; ticks(10) = 10;",
                "told(6) = 0; told(8) = 12; told(9) = 4");
        Runs.go(full(), "full: loads at the capacities",
                "rooms(0, 999) = 102; rooms(1, 999) = 12; rooms(2, 999) = 48; rooms(3, 999) = 64; rooms(4, 999) = 99;",
                "order(31, 0) = 0; order(31, 1) = 1; order(31, 2) = 2; order(31, 3) = 3; order(31, 4) = 4; order(31, 5) = -1");
    }

    private static void farOut(AnySites x) {
        for (int i = 0; i < CALLS.length; i++) {
            for (int v : FAR_OUT) {
                String arguments = v + (PARAMETERS[i] > 1 ? ", " + v : "") + (PARAMETERS[i] > 2 ? ", " + v : "");
                Runs.due("far out of range", CALLS[i] + "(" + arguments + ")", Runs.answer(x, CALLS[i], arguments), -2);
            }
        }
    }
}
