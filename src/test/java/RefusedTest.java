import java.util.function.Supplier;

/**
 * Every refused call with its code, with the code that comes first where several apply, and that nothing else changes
 * by it; the questions, which change nothing; and the acts, each of which leaves one state. LimitsTest has the
 * arguments that are out of range.
 */
public final class RefusedTest {
    private static final int BAD = -2;
    private static final int NO = -3;
    private static final int FULL = -4;

    public static void main(String[] args) {
        noRoom();
        notOn();
        noCatch();
        noPlan();
        noOrder();
        nothingKept();
        badComesFirst();
        noComesBeforeFull();
        noneComesLast();
        questions();
        acts();
        actsWithoutDifference();
        Runs.finish();
    }

    private static Supplier<AnySites> made(String... calls) {
        return () -> Runs.run("made", calls);
    }

    private static void noRoom() {
        Twins.refused("2: FULL if there are 8 areas", Networks::full, "area(0)", FULL);
        Twins.refused("2: FULL if there are 8 areas", Networks::full, "area(99)", FULL);
        Twins.refused("6: FULL if there are 5 sites, also if one is off", Networks::full, "site(0, 0)", FULL);
        Twins.refused("6: FULL if there are 5 sites, also if one is off", Networks::full, "site(7, 999)", FULL);
        Twins.refused("15: FULL if there are 12 sessions", Networks::full, "opens(0, 1, 1)", FULL);
        Twins.refused("15: FULL if there are 12 sessions", Networks::full, "opens(6, 9, 30)", FULL);
        Twins.refused("23: FULL if the buffer has 120", Networks::full, "type(0)", FULL);
        Twins.refused("23: FULL if the buffer has 120", Networks::full, "type(127)", FULL);
    }

    private static void notOn() {
        for (int k = 0; k <= 4; k++) {
            Twins.refused("8: NO if the site drains", Networks::full, "steps(2, " + k + ")", NO);
            Twins.refused("8: NO if the site is off", Networks::full, "steps(4, " + k + ")", NO);
        }
        Twins.refused("9: NO if the site is the first of the queue", Networks::full, "drains(3)", NO);
        Twins.refused("9: NO if the site is the last of the queue", Networks::full, "drains(2)", NO);
        Twins.refused("9: NO if the site is off", Networks::full, "drains(4)", NO);
        Twins.refused("9: NO if the site went off by its drain",
                made("area(1) = 0; site(0, 9) = 0; site(0, 9) = 1; drains(1) = 1; ticks(1) = 0; siteOf(1, 3) = 2"),
                "drains(1)", NO);
    }

    private static void noCatch() {
        Twins.refused("15: NO if there is no site", made("area(1) = 0"), "opens(0, 1, 1)", NO);
        Twins.refused("15: NO if there is no way to a site",
                made("area(1) = 0; area(1) = 1; site(0, 9) = 0"), "opens(1, 9, 30)", NO);
        Twins.refused("15: NO if all sites are off",
                made("area(1) = 0; site(0, 9) = 0; site(0, 9) = 1; cuts(0) = 2; cuts(1) = 2"), "opens(0, 1, 1)", NO);
        Twins.refused("15: NO for a loyal area whose last site is off and which has no other",
                made("area(1) = 0; site(0, 9) = 0; mood(0, 2) = 0; cuts(0) = 2; of(0, 3) = 0"), "opens(0, 1, 1)", NO);
    }

    private static void noPlan() {
        Twins.refused("20: NO if there is no plan", made("area(1) = 0; site(0, 0) = 0; steps(0, 3) = 0"), "lays()", NO);
        Twins.refused("20: NO if there is no plan for a draining site",
                made("area(1) = 0; site(0, 0) = 0; steps(0, 3) = 0; drains(0) = 1; site(0, 0) = 1;",
                "cuts(1) = 2"), "lays()", NO);
        Twins.refused("20: NO if there is no plan, though the rooms suffice together",
                made("area(6) = 0; site(0, 3) = 0; site(0, 3) = 1; steps(1, 4) = 0"), "lays()", NO);
        Twins.refused("20: NO if there is no plan, with five sites",
                made("area(6) = 0; site(0, 5) = 0; site(0, 5) = 1; site(0, 5) = 2; site(0, 5) = 3;",
                "site(0, 5) = 4"), "lays()", NO);
        Twins.refused("20: NO if there is no plan, all places taken", Networks::full, "lays()", NO);
    }

    private static void noOrder() {
        Twins.refused("21: NO if one of the sites is off", Networks::full, "order(16, 0)", NO);
        Twins.refused("21: NO if one of the sites is off", Networks::full, "order(17, 0)", NO);
        Twins.refused("21: NO if one of the sites is off", Networks::full, "order(31, 4)", NO);
        Twins.refused("21: NO if all of the sites are off",
                made("area(1) = 0; site(0, 9) = 0; site(0, 9) = 1; cuts(0) = 2; cuts(1) = 2"), "order(3, 0)", NO);
    }

    private static void nothingKept() {
        Twins.refused("26: NO if no state has been kept yet", AnySites::new, "back()", NO);
        Twins.refused("26: NO if none is kept, for no call was an act",
                made("far(0, 0) = -2; type(97) = 1; clear() = 1; reads() = -10; area(100) = -2;",
                "plan(-1) = 0"), "back()", NO);
        Twins.refused("26: NO if all states are taken back, and the oldest are gone",
                made("area(1) = 0; area(2) = 1; area(3) = 2; area(4) = 3; area(5) = 4; area(6) = 5; back() = 4; back() = 3;",
                        "back() = 2; back() = 1; back() = 0; told(4) = 1"), "back()", NO);
    }

    private static void badComesFirst() {
        Twins.refused("2: BAD before FULL", Networks::full, "area(100)", BAD);
        Twins.refused("2: BAD before FULL", Networks::full, "area(-1)", BAD);
        Twins.refused("6: BAD before FULL", Networks::full, "site(8, 0)", BAD);
        Twins.refused("6: BAD before FULL", Networks::full, "site(0, 1000)", BAD);
        Twins.refused("8: BAD before NO, drains", Networks::full, "steps(2, 5)", BAD);
        Twins.refused("8: BAD before NO, off", Networks::full, "steps(4, -1)", BAD);
        Twins.refused("15: BAD before NO", Networks::full, "opens(7, 0, 1)", BAD);
        Twins.refused("15: BAD before NO", Networks::full, "opens(7, 1, 31)", BAD);
        Twins.refused("15: BAD before FULL", Networks::full, "opens(0, 10, 1)", BAD);
        Twins.refused("15: BAD before FULL", Networks::full, "opens(0, 1, 0)", BAD);
        Twins.refused("21: BAD before NO, an index below 0", Networks::full, "order(16, -1)", BAD);
        Twins.refused("21: BAD before NO, a site that does not exist", Networks::full, "order(48, 0)", BAD);
        Twins.refused("21: BAD before NO, all bits", Networks::full, "order(-1, 0)", BAD);
        Twins.refused("23: BAD before FULL", Networks::full, "type(128)", BAD);
        Twins.refused("23: BAD before FULL", Networks::full, "type(-1)", BAD);
    }

    private static void noComesBeforeFull() {
        Twins.refused("15: NO before FULL", Networks::full, "opens(7, 1, 1)", NO);
        Twins.refused("15: NO before FULL", Networks::full, "opens(7, 9, 30)", NO);
    }

    private static void noneComesLast() {
        Twins.refused("16: BAD before NONE", Networks::full, "session(12, 5)", BAD);
        Twins.refused("16: BAD before NONE", AnySites::new, "session(0, -1)", BAD);
        Twins.refused("19: BAD before NONE", Networks::full, "plan(5)", BAD);
        Twins.refused("19: BAD before NONE", Networks::full, "plan(-2)", BAD);
        Twins.refused("21: NO before NONE, there is no such index", Networks::full, "order(16, 1)", NO);
        Twins.refused("21: NO before NONE, there is no such order", Networks::full, "order(18, 0)", NO);
        Twins.refused("22: BAD before NONE", AnySites::new, "worst(1, 2)", BAD);
        Twins.refused("22: BAD before NONE", AnySites::new, "worst(3, 0)", BAD);
        Twins.refused("22: BAD before NONE", AnySites::new, "worst(0, 1)", BAD);
    }

    private static void questions() {
        String[] silent = {"far(0, 7) = -1", "far(0, 6) = 21", "of(7, 2) = -1", "of(7, 3) = -1", "of(0, 4) = 4",
            "siteOf(4, 8) = -1", "siteOf(0, 9) = 0", "siteOf(4, 9) = 0", "siteOf(4, 4) = 3", "seems(7, 0) = -1",
            "seems(0, 4) = -1", "session(12, 0) = -1", "session(2147483647, 4) = -1", "session(11, 4) = 0",
            "plan(-1) = -1", "plan(0) = -1", "plan(4) = -1", "order(15, 0) = -1", "order(1, 1) = -1",
            "order(15, 2147483647) = -1", "worst(1, 0) = 200", "worst(1, 1) = 8", "worst(2, 0) = 260", "worst(2, 1) = 12",
            "told(0) = 1", "told(12) = 5"};
        for (String call : silent) {
            Twins.silent("a question changes nothing, and NONE is no error", Networks::full, call);
        }
        Twins.silent("22: NONE without sites", AnySites::new, "worst(1, 0) = -1");
        Twins.silent("19: a plan without sites", AnySites::new, "plan(-1) = 0");
        Twins.silent("19: a plan that is not carried out", Networks::small, "plan(-1) = 0");
        Twins.silent("25: a fault changes nothing and is not counted", made("area(1) = 0; text(a1;a)"), "reads() = -14");
        Twins.silent("25: nor does an empty text", AnySites::new, "reads() = -10");
        Twins.silent("25: nor do orders that are refused by BAD", made("area(1) = 0; text(a9;t3;a100;)"), "reads() = -1002");
        Twins.silent("25: nor by NO", made("area(1) = 0; text(s0 1;d0;d0;)"), "reads() = -1002");
        Twins.silent("25: nor by FULL", made("area(1) = 0; text(a1;a1;a1;a1;a1;a1;a1;a1;)"), "reads() = -1007");
        Twins.silent("24: an empty buffer that is emptied", AnySites::new, "clear() = 0");
    }

    private static void acts() {
        String[] inSmall = {"area(1) = 3", "wants(0, 99) = 10", "line(0, 1, 9) = 2", "line(0, 1, 0) = 2",
            "line(1, 2, 1) = 0", "mood(0, 1) = 0", "mood(2, 2) = 0", "site(2, 1) = 2", "rooms(0, 0) = 40",
            "steps(0, 4) = 0", "drains(0) = 2", "cuts(0) = 2", "cuts(1) = 2", "opens(0, 1, 1) = 3", "ends(0) = 1",
            "ends(1) = 1", "ticks(1) = 0", "ticks(30) = 2", "lays() = 0", "reads() = 1"};
        for (String call : inSmall) {
            Twins.act("one state by an act", Networks::small, call);
        }
        String[] inFull = {"wants(7, 0) = 99", "line(6, 7, 9) = 0", "mood(7, 2) = 0", "mood(1, 0) = 2",
            "rooms(4, 999) = 100", "steps(0, 4) = 0", "drains(0) = 3", "cuts(4) = 0", "cuts(3) = 2", "ends(11) = 11",
            "ticks(30) = 12", "reads() = 40"};
        for (String call : inFull) {
            Twins.act("the latest five states", Networks::full, call);
        }
        Twins.act("the first state", AnySites::new, "area(0) = 0");
        Twins.act("the first state", AnySites::new, "ticks(1) = 0");
        Twins.act("the first state", AnySites::new, "lays() = 0");
        Twins.act("the fifth state", made("area(0) = 0; area(1) = 1; area(2) = 2; area(3) = 3"), "area(4) = 4");
        Twins.act("the sixth state", made("area(0) = 0; area(1) = 1; area(2) = 2; area(3) = 3; area(4) = 4"), "area(5) = 5");
    }

    private static void actsWithoutDifference() {
        String[] same = {"wants(1, 20) = 20", "line(0, 1, 2) = 2", "line(1, 0, 2) = 2", "line(0, 2, 0) = 0",
            "mood(0, 0) = 0", "rooms(1, 40) = 40", "steps(0, 0) = 0", "lays() = 0"};
        for (String call : same) {
            Twins.act("a state also if nothing becomes different", Networks::small, call);
        }
        Twins.act("a state also if nothing becomes different", Networks::full, "mood(1, 2) = 2");
        Twins.act("a state also if nothing becomes different", Networks::full, "mood(0, 1) = 1");
        Twins.act("one state for orders that make nothing different",
                made("area(1) = 0; site(0, 9) = 0; text(p0 0;m0 0;x0;x0;)"), "reads() = 4");
    }
}
