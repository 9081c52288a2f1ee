/** The sentences that name a boundary case in promises 26 to 28: kept states, counts, and the digest. */
public final class StateEdgesTest {
    public static void main(String[] args) {
        noneToFive();
        whatIsNoState();
        theOldestGoes();
        codesThatAreCounted();
        countsOfErrorsStay();
        everyCount();
        digestOfNothing();
        digestOfAll();
        digestIsNoAct();
        Runs.finish();
    }

    private static void noneToFive() {
        Runs.run("26: from none to five and back to none", "told(12) = 0; back() = -3; area(0) = 0; told(12) = 1;",
                "area(0) = 1; told(12) = 2; area(0) = 2; told(12) = 3; area(0) = 3; told(12) = 4; area(0) = 4;",
                "told(12) = 5; area(0) = 5; told(12) = 5; area(0) = 6; told(12) = 5; told(4) = 7; back() = 4;",
                "told(4) = 6; back() = 3; told(4) = 5; back() = 2; told(4) = 4; back() = 1; told(4) = 3;",
                "back() = 0; told(4) = 2; told(12) = 0; back() = -3; back() = -3; told(4) = 2; told(12) = 0; told(1) = 3");
        Runs.run("26: a state that was returned to is not kept any more", "area(1) = 0; wants(0, 2) = 1;",
                "back() = 1; wants(0, 3) = 1; told(12) = 2; back() = 1; of(0, 0) = 1; back() = 0; told(4) = 0; back() = -3");
        Runs.run("26: there is no way forward again", "area(1) = 0; area(2) = 1; back() = 1; back() = 0;",
                "told(4) = 0; back() = -3; told(4) = 0");
    }

    private static void whatIsNoState() {
        Runs.run("26: what is no act leaves no state", "area(1) = 0; site(0, 9) = 0; type(97) = 1; clear() = 1;",
                "reads() = -10; plan(-1) = 0; order(1, 0) = 0; worst(1, 0) = 0; far(0, 0) = 0; of(0, 0) = 1;",
                "siteOf(0, 0) = 0; seems(0, 0) = 0; session(0, 0) = -1; told(12) = 2; back() = 1; told(12) = 1");
        Runs.run("26: a refused call leaves none", "area(1) = 0; site(0, 0) = 0; area(100) = -2; steps(1, 0) = -2;",
                "lays() = -3; ends(0) = -2; ticks(0) = -2; text(a1;a100;); reads() = -1001; told(12) = 2; back() = 1;",
                "told(5) = 0; back() = 0; told(4) = 0");
    }

    private static void theOldestGoes() {
        Runs.run("26: refused calls at five states let none go", "area(0) = 0; area(1) = 1; area(2) = 2; area(3) = 3;",
                "area(4) = 4; area(100) = -2; cuts(0) = -2; opens(0, 1, 1) = -3; text(a5;x0;); reads() = -1001;",
                "reads() = -1001; told(12) = 5; back() = 4; back() = 3; back() = 2; back() = 1; back() = 0; told(4) = 0");
        Runs.run("26: a text with many orders lets one state go", "area(0) = 0; area(1) = 1; area(2) = 2; area(3) = 3;",
                "area(4) = 4; text(a5;a6;t1;t1;t1;t1;); reads() = 6; told(12) = 5; back() = 4; told(4) = 5;",
                "told(7) = 0; back() = 3; back() = 2; back() = 1; back() = 0; told(4) = 1; back() = -3");
        AnySites x = new AnySites();
        x.area(0);
        for (int i = 1; i <= 99; i++) {
            Runs.due("26: many acts", "wants(0, i)", x.wants(0, i), i - 1);
            Runs.due("26: many acts", "told(12)", x.told(12), Math.min(i + 1, 5));
        }
        for (int i = 1; i <= 5; i++) {
            Runs.due("26: many acts", "back()", x.back(), 5 - i);
            Runs.due("26: many acts", "of(0, 0)", x.of(0, 0), 99 - i);
        }
        Runs.due("26: many acts", "back()", x.back(), -3);
    }

    private static void codesThatAreCounted() {
        Runs.run("27: which counts there are", "told(-1) = -2; told(0) = 1; told(12) = 0; told(13) = -2; told(0) = 2;",
                "told(2147483647) = -2; told(-2147483648) = -2; told(0) = 4; told(1) = 0; told(2) = 0");
        Runs.run("27: NONE is not counted", "area(1) = 0; area(1) = 1; site(0, 0) = 0; far(0, 1) = -1;",
                "of(1, 2) = -1; of(1, 3) = -1; siteOf(0, 8) = -1; seems(1, 0) = -1; session(0, 0) = -1;",
                "plan(-1) = -1; plan(0) = -1; order(1, 1) = -1; worst(2, 0) = -1; worst(2, 1) = -1;",
                "told(0) = 0; told(1) = 0; told(2) = 0");
        Runs.run("27: what happens by reads() is not counted as an error", "text(a100;); reads() = -1000; text(a1;o0 1 1;);",
                "reads() = -1001; text(a1;a1;a1;a1;a1;a1;a1;a1;a1;); reads() = -1008; text(b); reads() = -10;",
                "text(); reads() = -10; told(0) = 0; told(1) = 0; told(2) = 0; told(12) = 0");
        Runs.run("27: one error is counted for a call with several", "line(-1, -1, 10) = -2; opens(9, 0, 31) = -2;",
                "order(0, -1) = -2; worst(0, 2) = -2; session(-1, 5) = -2; told(0) = 5; told(1) = 0; told(2) = 0");
    }

    private static void countsOfErrorsStay() {
        Runs.run("26: errors and the buffer are not taken back", "area(1) = 0; area(100) = -2; site(0, 0) = 0;",
                "lays() = -3; type(97) = 1; area(1) = 1; area(1) = 2; area(1) = 3; area(1) = 4; area(1) = 5;",
                "area(1) = 6; area(1) = 7; area(1) = -4; type(98) = 2; back() = 4; back() = 3; back() = 2;",
                "back() = 1; back() = 0; told(0) = 1; told(1) = 1; told(2) = 1; told(3) = 2; told(4) = 3;",
                "back() = -3; told(1) = 2; told(3) = 2");
        Runs.run("26: what time counts is taken back", "area(5) = 0; site(0, 5) = 0; site(0, 4) = 1; opens(0, 1, 1) = 1;",
                "opens(0, 1, 9) = 2; cuts(0) = 2; ticks(1) = 1; told(7) = 1; told(8) = 1; told(9) = 1; told(6) = 1;",
                "back() = 4; told(7) = 0; told(8) = 0; told(9) = 0; told(6) = 2; back() = 3; drains(0) = 1;",
                "ticks(1) = 1; told(10) = 1; told(11) = 1; back() = 4; told(10) = 0; back() = 3; told(11) = 0;",
                "ends(0) = 1; told(8) = 1; back() = 3; told(8) = 0");
    }

    private static void everyCount() {
        Runs.go(Networks.full(), "27: all places taken", "told(0) = 1; told(1) = 1; told(2) = 1; told(3) = 120;",
                "told(4) = 8; told(5) = 5; told(6) = 12; told(7) = 0; told(8) = 0; told(9) = 0; told(10) = 0;",
                "told(11) = 2; told(12) = 5");
    }

    private static void digestOfNothing() {
        long h = 2333;
        for (int i = 0; i < 13; i++) {
            h *= 31;
        }
        Runs.run("28: of nothing", "digest() = " + h + "; digest() = " + h + "; told(12) = 0; told(0) = 0");
    }

    /** Every question makes the digest's value, and NONE is a value as well; far and line by b and then by a. */
    private static void digestOfAll() {
        AnySites x = Networks.full();
        long h = 2333;
        for (int what = 0; what <= 12; what++) {
            h = 31 * h + x.told(what);
        }
        for (int a = 0; a < 8; a++) {
            for (int what = 0; what <= 5; what++) {
                h = 31 * h + x.of(a, what);
            }
        }
        for (int b = 0; b < 8; b++) {
            for (int a = 0; a < b; a++) {
                h = 31 * h + (b == a + 1 && b < 7 ? b : 0);
                h = 31 * h + (b < 7 ? b * (b + 1) / 2 - a * (a + 1) / 2 : -1);
            }
        }
        for (int s = 0; s < 5; s++) {
            for (int what = 0; what <= 9; what++) {
                h = 31 * h + x.siteOf(s, what);
            }
        }
        for (int i = 0; i < 12; i++) {
            for (int what = 0; what <= 4; what++) {
                h = 31 * h + x.session(i, what);
            }
        }
        Runs.due("28: all places taken", "digest()", x.digest(), h);
    }

    private static void digestIsNoAct() {
        AnySites x = Networks.full();
        long h = x.digest();
        Runs.due("28: again", "digest()", x.digest(), h);
        Runs.go(x, "28: no act, and not counted", "told(0) = 1; told(1) = 1; told(2) = 1; told(12) = 5;",
                "back() = 4; siteOf(4, 3) = 0");
        Runs.holds("28: the digest of another state differs", x.digest() != h);
    }
}
