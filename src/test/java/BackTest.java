/** Promise 26, and the errors that change nothing. */
public final class BackTest {
    public static void main(String[] args) {
        back();
        everything();
        failures();
        Runs.finish();
    }

    private static void back() {
        Runs.run("26: NO if none is kept", "back() = -3; told(1) = 1; area(1) = 0; back() = 0; back() = -3; told(1) = 2");
        Runs.run("26: at most the latest five",
                "area(1) = 0; area(2) = 1; area(3) = 2; area(4) = 3; area(5) = 4; area(6) = 5; area(7) = 6; told(12) = 5;",
                "back() = 4; told(4) = 6; back() = 3; back() = 2; back() = 1; back() = 0; told(4) = 2; back() = -3;",
                "told(4) = 2; area(9) = 2; told(12) = 1; back() = 0; told(4) = 2; of(1, 0) = 2");
        Runs.run("26: states that were taken back are gone, new ones come in their place",
                "area(1) = 0; area(2) = 1; back() = 1; area(3) = 1; area(4) = 2; back() = 2; of(1, 0) = 3; back() = 1;",
                "told(4) = 1; back() = 0; told(4) = 0; back() = -3");
        Runs.run("26: around the ring many times",
                "area(0) = 0; wants(0, 1) = 0; wants(0, 2) = 1; wants(0, 3) = 2; wants(0, 4) = 3; wants(0, 5) = 4;",
                "wants(0, 6) = 5; wants(0, 7) = 6; wants(0, 8) = 7; wants(0, 9) = 8; wants(0, 10) = 9; wants(0, 11) = 10;",
                "wants(0, 12) = 11; back() = 4; of(0, 0) = 11; back() = 3; of(0, 0) = 10; wants(0, 50) = 10;",
                "wants(0, 51) = 50; wants(0, 52) = 51; back() = 4; of(0, 0) = 51; back() = 3; of(0, 0) = 50; back() = 2;",
                "of(0, 0) = 10; back() = 1; of(0, 0) = 9; back() = 0; of(0, 0) = 8; back() = -3; of(0, 0) = 8");
        Runs.run("26: an act that makes nothing different leaves a state too",
                "area(1) = 0; wants(0, 1) = 1; mood(0, 0) = 0; told(12) = 3; back() = 2; back() = 1; told(4) = 1");
    }

    private static void everything() {
        Runs.run("26: everything returns but the text buffer and the counts of errors",
                "area(10) = 0; area(20) = 1; line(0, 1, 2) = 0; site(0, 99) = 0; site(1, 25) = 1; opens(0, 1, 3) = 1;",
                "opens(0, 2, 9) = 2; drains(0) = 1; mood(1, 2) = 0; text(a1;x1;x1;t3;m0 1;d1;l0 1 0;l1 2 5;s2 1;);",
                "far(9, 9) = -2; reads() = 9; told(6) = 1; told(8) = 1; told(7) = 3; told(10) = 3; told(11) = 2;",
                "told(4) = 3; told(5) = 3; far(0, 1) = -1; far(1, 2) = 5; of(0, 3) = 0; back() = 4; told(0) = 1; told(1) = 0;",
                "told(3) = 39; told(4) = 2; told(5) = 2; told(6) = 2; told(7) = 0; told(8) = 0; told(9) = 0; told(10) = 0;",
                "told(11) = 1; told(12) = 4; of(0, 1) = 0; of(1, 1) = 2; of(0, 3) = -1; of(1, 3) = 1; far(0, 1) = 2;",
                "siteOf(0, 3) = 1; siteOf(0, 8) = 0; siteOf(1, 3) = 0; siteOf(1, 8) = -1; session(0, 3) = 3;",
                "session(1, 3) = 9; session(1, 2) = 2; area(5) = 2; far(1, 2) = -1");
        Runs.run("26: the queue and the sessions return in their order",
                "area(1) = 0; area(2) = 1; site(0, 9) = 0; site(1, 9) = 1; opens(0, 1, 11) = 1; opens(1, 2, 12) = 2;",
                "drains(1) = 1; drains(0) = 2; cuts(1) = 2; siteOf(0, 8) = 0; ends(0) = 1; session(0, 0) = 1; back() = 4;",
                "session(0, 0) = 0; session(0, 1) = 0; session(0, 2) = 1; session(0, 3) = 11; session(1, 0) = 1;",
                "session(1, 1) = 1; session(1, 2) = 2; session(1, 3) = 12; back() = 3; siteOf(1, 8) = 0; siteOf(0, 8) = 1");
        Runs.run("26: the lines of the last areas return",
                "area(0) = 0; area(0) = 1; area(0) = 2; area(0) = 3; area(0) = 4; area(0) = 5; area(0) = 6; area(0) = 7;",
                "line(6, 7, 3) = 0; line(6, 7, 5) = 3; far(7, 6) = 5; back() = 4; far(7, 6) = 3; far(6, 7) = 3;",
                "line(7, 6, 1) = 3; back() = 4; back() = 3; far(6, 7) = -1; line(6, 7, 1) = 0");
        AnySites x = Runs.run("26: the digest returns",
                "area(10) = 0; area(20) = 1; line(0, 1, 2) = 0; site(0, 9) = 0; site(1, 99) = 1; opens(0, 5, 9) = 1; drains(0) = 1");
        long withFive = x.digest();
        Runs.go(x, "26: the digest returns", "ends(0) = 0; back() = 4; told(12) = 4");
        Runs.holds("26: the digest holds how many states are kept", x.digest() != withFive);
        long withFour = x.digest();
        Runs.go(x, "26: the digest returns", "ticks(9) = 1; back() = 4");
        Runs.due("26: the digest returns", "digest()", x.digest(), withFour);
    }

    /** Every act with wrong inputs: the digest may differ by the counts of errors alone. */
    private static void failures() {
        String[] wrong = {"area(100) = -2", "wants(0, 100) = -2", "line(0, 0, 1) = -2", "mood(0, 3) = -2",
            "site(0, 1000) = -2", "rooms(0, 1000) = -2", "steps(0, 5) = -2", "steps(1, 1) = -3", "drains(1) = -3",
            "drains(9) = -2", "cuts(9) = -2", "opens(2, 1, 1) = -3", "opens(0, 0, 1) = -2", "ends(9) = -2", "ticks(31) = -2",
            "lays() = -3", "order(0, 0) = -2", "worst(3, 0) = -2", "type(128) = -2", "plan(9) = -2"};
        for (String call : wrong) {
            AnySites x = Runs.run("errors change nothing",
                    "area(10) = 0; area(20) = 1; area(30) = 2; line(0, 1, 2) = 0; site(0, 9) = 0; site(1, 19) = 1;",
                    "opens(0, 5, 9) = 1; drains(1) = 1");
            String before = state(x);
            Runs.go(x, "errors change nothing", call);
            Runs.holds("errors change nothing: " + call, state(x).equals(before));
            Runs.due("errors are counted: " + call, "told(0) + told(1) + told(2)", x.told(0) + x.told(1) + x.told(2), 1);
        }
    }

    private static String state(AnySites x) {
        StringBuilder all = new StringBuilder();
        for (int what = 3; what <= 12; what++) {
            all.append(x.told(what)).append(' ');
        }
        for (int a = 0; a < x.told(4); a++) {
            for (int what = 0; what <= 5; what++) {
                all.append(x.of(a, what)).append(' ');
            }
            for (int b = 0; b < x.told(4); b++) {
                all.append(x.far(a, b)).append(' ');
            }
        }
        for (int s = 0; s < x.told(5); s++) {
            for (int what = 0; what <= 9; what++) {
                all.append(x.siteOf(s, what)).append(' ');
            }
        }
        for (int i = 0; i < x.told(6); i++) {
            for (int what = 0; what <= 4; what++) {
                all.append(x.session(i, what)).append(' ');
            }
        }
        return all.toString();
    }
}
