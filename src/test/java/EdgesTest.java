/**
 * The sentences of the document's description that name a boundary case, for promises 1 to 18: areas, lines, sites,
 * catches, loads, sessions, and each line of what a tick does. LimitsTest has the ranges of the arguments.
 */
public final class EdgesTest {
    private static final String EIGHT = "area(99) = 0; area(99) = 1; area(99) = 2; area(99) = 3; area(99) = 4; area(99) = 5;"
            + "area(99) = 6; area(99) = 7;";
    private static final String CHAIN = EIGHT + "line(0, 1, 9) = 0; line(1, 2, 9) = 0; line(2, 3, 9) = 0; line(3, 4, 9) = 0;"
            + "line(4, 5, 9) = 0; line(5, 6, 9) = 0; line(6, 7, 9) = 0;";
    private static final String TWELVE =
            "opens(0, 9, 30) = 1; opens(0, 9, 30) = 2; opens(0, 9, 30) = 3; opens(0, 9, 30) = 4;"
            + "opens(0, 9, 30) = 5; opens(0, 9, 30) = 6; opens(0, 9, 30) = 7; opens(0, 9, 30) = 8; opens(0, 9, 30) = 9;"
            + "opens(0, 9, 30) = 10; opens(0, 9, 30) = 11; opens(0, 9, 30) = 12;";

    public static void main(String[] args) {
        newObject();
        areas();
        linesAndDistances();
        moods();
        loyalWithoutCatch();
        sites();
        queue();
        apparentDistances();
        catches();
        deafCatches();
        loyalCatches();
        loads();
        safeToGo();
        sessions();
        sessionsInTicks();
        brokenSessions();
        firstOfTheQueue();
        lastStep();
        delays();
        lastSites();
        time();
        Runs.finish();
    }

    private static void newObject() {
        Runs.run("1: nothing is there", "told(3) = 0; told(4) = 0; told(5) = 0; told(6) = 0; told(7) = 0; told(11) = 0;",
                "told(12) = 0; clear() = 0; reads() = -10; worst(1, 1) = -1; plan(-1) = 0; session(0, 0) = -1;",
                "told(0) = 0; told(1) = 0; told(2) = 0");
        Runs.run("1: nothing is there to be named", "wants(0, 0) = -2; line(0, 1, 1) = -2; mood(0, 0) = -2;",
                "site(0, 0) = -2; rooms(0, 0) = -2; steps(0, 0) = -2; drains(0) = -2; cuts(0) = -2; far(0, 0) = -2;",
                "of(0, 0) = -2; siteOf(0, 0) = -2; seems(0, 0) = -2; opens(0, 1, 1) = -2; ends(0) = -2; plan(0) = -2;",
                "order(1, 0) = -2; told(0) = 16; told(12) = 0");
        Runs.run("1: no state is kept", "back() = -3; told(1) = 1; told(12) = 0");
        Runs.run("1: time can pass where nothing is", "ticks(30) = 0; told(7) = 30; told(8) = 0; told(9) = 0; told(10) = 0;",
                "back() = 0");
    }

    private static void areas() {
        Runs.run("2: the eighth area, no ninth, and room again when one is taken back", EIGHT,
                "told(4) = 8; area(0) = -4; told(4) = 8; back() = 4; told(4) = 7; of(7, 0) = -2; area(0) = 7;",
                "of(7, 0) = 0; area(0) = -4; told(2) = 2; told(12) = 5");
        Runs.run("3: the last area", EIGHT, "wants(7, 0) = 99; wants(7, 99) = 0; wants(8, 0) = -2; wants(-1, 0) = -2;",
                "of(7, 0) = 99; wants(7, 100) = -2; wants(7, -1) = -2; of(7, 0) = 99; of(6, 0) = 99; told(0) = 4");
        Runs.run("12: an area that is the last one", EIGHT, "of(7, 5) = 0; of(7, 6) = -2; of(8, 0) = -2; of(0, -1) = -2");
    }

    private static void linesAndDistances() {
        Runs.run("4: no line at first", EIGHT, "far(0, 7) = -1; far(6, 7) = -1; line(6, 7, 0) = 0; far(6, 7) = -1;",
                "far(7, 7) = 0; told(12) = 5");
        Runs.run("4: the shortest and the longest line, and none", EIGHT, "line(6, 7, 1) = 0;",
                "far(7, 6) = 1; line(7, 6, 9) = 1; far(6, 7) = 9; line(6, 7, 10) = -2; line(6, 7, -1) = -2;",
                "far(6, 7) = 9; line(6, 7, 0) = 9; far(6, 7) = -1");
        Runs.run("4: a equals b", EIGHT, "line(7, 7, 0) = -2; line(7, 7, 1) = -2; line(0, 0, 9) = -2;",
                "far(7, 7) = 0; told(0) = 3");
        Runs.run("11: the longest distance", CHAIN, "far(0, 7) = 63; far(7, 0) = 63; far(1, 7) = 54;",
                "far(0, 0) = 0; line(3, 4, 0) = 9; far(0, 7) = -1; far(0, 3) = 27; far(4, 7) = 27; line(0, 7, 9) = 0;",
                "far(3, 4) = 63");
        Runs.run("11: a way that is as long as a line, and one that is shorter",
                "area(0) = 0; area(0) = 1; area(0) = 2; line(0, 1, 4) = 0; line(1, 2, 5) = 0; line(0, 2, 9) = 0;",
                "far(0, 2) = 9; line(0, 1, 3) = 4; far(0, 2) = 8; line(0, 1, 5) = 3; far(0, 2) = 9");
        Runs.run("11: areas that do not exist yet", "area(0) = 0; far(0, 1) = -2; far(1, 0) = -2; far(1, 1) = -2;",
                "area(0) = 1; far(0, 1) = -1");
    }

    private static void moods() {
        Runs.run("5: the moods", EIGHT, "of(7, 1) = 0; mood(7, 2) = 0; of(7, 1) = 2; mood(7, 0) = 2; mood(7, 1) = 0;",
                "mood(7, 3) = -2; mood(7, -1) = -2; of(7, 1) = 1; mood(8, 0) = -2; told(0) = 3");
        Runs.run("5: the last site at first, and by becoming loyal without a catch", "area(0) = 0; of(0, 3) = -1;",
                "mood(0, 2) = 0; of(0, 3) = -1");
        Runs.run("5: a mood other than loyal leaves the last site",
                "area(0) = 0; site(0, 9) = 0; site(0, 9) = 1; ticks(1) = 0; of(0, 3) = 0; steps(0, 1) = 0; mood(0, 1) = 0;",
                "of(0, 3) = 0; mood(0, 0) = 1; of(0, 3) = 0; of(0, 2) = 1; mood(0, 2) = 0; of(0, 3) = 1; mood(0, 0) = 2;",
                "of(0, 3) = 1");
        Runs.run("5: loyal again is no becoming loyal", "area(0) = 0; site(0, 9) = 0; site(0, 9) = 1; mood(0, 2) = 0;",
                "of(0, 3) = 0; cuts(0) = 2; of(0, 2) = 1; mood(0, 2) = 2; of(0, 3) = 0; mood(0, 1) = 2; mood(0, 2) = 1;",
                "of(0, 3) = 1");
    }

    /** "its last site becomes its catch directly before that", and of the catch: "There is none if no site ..". */
    private static void loyalWithoutCatch() {
        String gone = "area(0) = 0; site(0, 9) = 0; ticks(1) = 0; of(0, 3) = 0; cuts(0) = 2; of(0, 2) = -1;";
        Runs.run("5: the last site of a tick is lost by becoming loyal without a catch", gone, "of(0, 3) = 0;",
                "mood(0, 2) = 0; of(0, 3) = -1; site(0, 9) = 1; cuts(0) = 0; of(0, 2) = 0; steps(0, 1) = 0; of(0, 2) = 1;",
                "of(0, 3) = -1; steps(0, 0) = 1; ticks(1) = 0; of(0, 3) = 0; steps(0, 1) = 0; of(0, 2) = 0");
        Runs.run("5: from deaf too", gone, "mood(0, 1) = 0; of(0, 3) = 0; mood(0, 2) = 1; of(0, 3) = -1");
        Runs.run("5: by a text too", gone, "text(m0 2;); reads() = 1; of(0, 3) = -1; back() = 4; of(0, 3) = 0;",
                "text(x0;m0 2;x0;); reads() = 3; of(0, 1) = 2; of(0, 3) = 0");
        Runs.run("5: not by staying loyal", gone, "cuts(0) = 0; mood(0, 2) = 0; cuts(0) = 2; of(0, 2) = -1; mood(0, 2) = 2;",
                "of(0, 3) = 0; cuts(0) = 0; of(0, 2) = 0");
        Runs.run("5: without a way there is no catch either", "area(0) = 0; area(0) = 1; line(0, 1, 1) = 0; site(1, 9) = 0;",
                "ticks(1) = 0; of(0, 3) = 0; line(0, 1, 0) = 1; of(0, 3) = 0; mood(0, 2) = 0; of(0, 3) = -1; of(1, 3) = 0;",
                "line(0, 1, 1) = 0; of(0, 2) = 0; of(0, 3) = -1");
    }

    private static void sites() {
        Runs.run("6: the fifth site, no sixth, and room again when one is taken back",
                "area(0) = 0; site(0, 0) = 0; site(0, 999) = 1; site(0, 0) = 2; site(0, 0) = 3; site(0, 999) = 4;",
                "site(0, 0) = -4; told(5) = 5; cuts(4) = 2; site(0, 0) = -4; back() = 4; back() = 3;",
                "told(5) = 4; siteOf(4, 0) = -2; site(0, 7) = 4; siteOf(4, 1) = 7; site(0, 7) = -4; told(2) = 3");
        Runs.run("7: the capacities", "area(0) = 0; site(0, 5) = 0; rooms(0, 0) = 5; rooms(0, 999) = 0;",
                "rooms(0, 1000) = -2; rooms(0, -1) = -2; siteOf(0, 1) = 999; rooms(1, 0) = -2; rooms(-1, 0) = -2;",
                "drains(0) = 1; rooms(0, 1) = 999; cuts(0) = 2; rooms(0, 2) = 1");
        Runs.run("8: the steps", "area(0) = 0; site(0, 5) = 0; siteOf(0, 2) = 0; steps(0, 4) = 0; steps(0, 5) = -2;",
                "steps(0, -1) = -2; siteOf(0, 2) = 4; steps(0, 0) = 4; siteOf(0, 2) = 0; told(0) = 2");
        Runs.run("8: on again, steps are possible", "area(0) = 0; site(0, 5) = 0; drains(0) = 1; steps(0, 1) = -3;",
                "cuts(0) = 2; steps(0, 1) = -3; cuts(0) = 0; steps(0, 1) = 0; told(1) = 2");
        Runs.run("13: the values of the last site", "area(0) = 0; site(0, 5) = 0; siteOf(0, 9) = 1; siteOf(0, 10) = -2;",
                "siteOf(0, -1) = -2; siteOf(1, 9) = -2; siteOf(-1, 0) = -2; told(0) = 4");
    }

    private static void queue() {
        String five = "area(0) = 0; site(0, 9) = 0; site(0, 9) = 1; site(0, 9) = 2; site(0, 9) = 3; site(0, 9) = 4;";
        Runs.run("9: from an empty queue to one with all sites", five, "told(11) = 0; siteOf(3, 8) = -1;",
                "drains(3) = 1; siteOf(3, 8) = 0; drains(3) = -3; drains(0) = 2; drains(4) = 3;",
                "drains(1) = 4; drains(2) = 5; siteOf(2, 8) = 4; told(11) = 5; drains(0) = -3; drains(1) = -3;",
                "drains(2) = -3; drains(3) = -3; drains(4) = -3; drains(5) = -2; told(11) = 5; told(1) = 6");
        Runs.run("10: out of the queue's beginning, middle and end", five, "drains(0) = 1; drains(1) = 2; drains(2) = 3;",
                "drains(3) = 4; drains(4) = 5; cuts(2) = 2; siteOf(2, 8) = -1; siteOf(3, 8) = 2; siteOf(4, 8) = 3;",
                "cuts(0) = 2; siteOf(1, 8) = 0; siteOf(4, 8) = 2; cuts(4) = 2; told(11) = 2; siteOf(1, 8) = 0;",
                "siteOf(3, 8) = 1; cuts(1) = 2; cuts(3) = 2; told(11) = 0");
        Runs.run("10: each state in turn", "area(0) = 0; site(0, 9) = 0; siteOf(0, 3) = 0; cuts(0) = 2; siteOf(0, 3) = 2;",
                "cuts(0) = 0; siteOf(0, 3) = 0; drains(0) = 1; siteOf(0, 3) = 1; cuts(0) = 2; told(11) = 0;",
                "cuts(0) = 0; siteOf(0, 8) = -1; drains(0) = 1; cuts(1) = -2; cuts(-1) = -2");
        Runs.run("10: the greatest step is gone by switching", "area(0) = 0; site(0, 9) = 0; steps(0, 4) = 0;",
                "drains(0) = 1; cuts(0) = 2; siteOf(0, 2) = 0; cuts(0) = 0; siteOf(0, 2) = 0; seems(0, 0) = 0");
        Runs.run("10: a site that is on and not in the queue leaves the queue as it is", five, "drains(1) = 1;",
                "drains(2) = 2; cuts(0) = 2; told(11) = 2; siteOf(1, 8) = 0; siteOf(2, 8) = 1; cuts(0) = 0; told(11) = 2");
    }

    private static void apparentDistances() {
        Runs.run("14: the greatest apparent distance", CHAIN, "site(7, 0) = 0; seems(0, 0) = 63; steps(0, 4) = 0;",
                "seems(0, 0) = 75; seems(7, 0) = 12; mood(0, 1) = 0; seems(0, 0) = 63; mood(0, 2) = 1; seems(0, 0) = 75;",
                "drains(0) = 1; seems(0, 0) = 75; line(3, 4, 0) = 9; seems(0, 0) = -1; seems(4, 0) = 39;",
                "cuts(0) = 2; seems(7, 0) = -1; seems(8, 0) = -2; seems(0, 1) = -2");
        Runs.run("12: how many have an apparent distance", CHAIN, "of(0, 4) = 0; site(7, 0) = 0; site(7, 0) = 1;",
                "site(0, 0) = 2; site(0, 0) = 3; site(0, 0) = 4; of(0, 4) = 5; drains(0) = 1; of(0, 4) = 5; cuts(1) = 2;",
                "of(0, 4) = 4; line(3, 4, 0) = 9; of(0, 4) = 3; of(7, 4) = 1; cuts(0) = 2; of(7, 4) = 0; of(7, 2) = -1");
    }

    private static void catches() {
        String pair = "area(0) = 0; area(0) = 1; line(0, 1, 3) = 0;";
        Runs.run("12: none without a site, with a site that is off, and without a way",
                "area(0) = 0; area(0) = 1; of(0, 2) = -1; site(1, 9) = 0; of(0, 2) = -1; of(1, 2) = 0;",
                "cuts(0) = 2; of(1, 2) = -1");
        Runs.run("12: equally far: the smallest step, here the greater number", pair, "site(0, 9) = 0; site(1, 9) = 1;",
                "steps(0, 1) = 0; seems(0, 0) = 3; seems(0, 1) = 3; of(0, 2) = 1; line(0, 1, 4) = 3;",
                "of(0, 2) = 0; line(0, 1, 2) = 4; of(0, 2) = 1");
        Runs.run("12: equally far: the smallest step, here the smaller number", pair, "site(1, 9) = 0; site(0, 9) = 1;",
                "steps(1, 1) = 0; seems(0, 0) = 3; seems(0, 1) = 3; of(0, 2) = 0; line(0, 1, 4) = 3; of(0, 2) = 1");
        Runs.run("12: equally far and with equal steps: the smallest number", pair, "site(1, 9) = 0; site(1, 9) = 1;",
                "site(1, 9) = 2; of(0, 2) = 0; steps(0, 4) = 0; steps(1, 4) = 0; steps(2, 4) = 0;",
                "of(0, 2) = 0; of(1, 2) = 0; cuts(0) = 2; of(0, 2) = 1");
        Runs.run("12: a deaf area, equally far: the steps decide though they make nothing farther", pair, "mood(0, 1) = 0;",
                "site(1, 9) = 0; site(1, 9) = 1; of(0, 2) = 0; steps(0, 4) = 0; of(0, 2) = 1; seems(0, 0) = 3;",
                "seems(0, 1) = 3; steps(1, 4) = 0; of(0, 2) = 0");
        Runs.run("12: a deaf area, one nearer: the steps do not decide", pair, "mood(0, 1) = 0; site(0, 9) = 0;",
                "site(1, 9) = 1; steps(0, 4) = 0; of(0, 2) = 0; of(1, 2) = 1; mood(0, 0) = 1; of(0, 2) = 1");
    }

    /** "of several the one with the smallest step, and of these the one with the smallest number": of a deaf area too. */
    private static void deafCatches() {
        String three = "area(5) = 0; mood(0, 1) = 0; site(0, 9) = 0; site(0, 9) = 1; site(0, 9) = 2;";
        Runs.run("12: a deaf area, the smallest step of three", three, "steps(0, 2) = 0; steps(1, 1) = 0; of(0, 2) = 2;",
                "steps(2, 3) = 0; of(0, 2) = 1; steps(1, 3) = 1; of(0, 2) = 0; steps(0, 3) = 2; of(0, 2) = 0;",
                "steps(0, 4) = 3; of(0, 2) = 1; seems(0, 0) = 0; seems(0, 1) = 0; seems(0, 2) = 0; siteOf(1, 6) = 1");
        Runs.run("12: a deaf area, equally far by different ways", "area(5) = 0; area(0) = 1; area(0) = 2;",
                "area(0) = 3; line(0, 1, 4) = 0; line(0, 2, 1) = 0; line(2, 3, 3) = 0; mood(0, 1) = 0; site(1, 9) = 0;",
                "site(3, 9) = 1; of(0, 2) = 0; steps(0, 1) = 0; seems(0, 0) = 4; seems(0, 1) = 4; of(0, 2) = 1;",
                "line(2, 3, 4) = 3; of(0, 2) = 0; steps(0, 4) = 1; of(0, 2) = 0");
        Runs.run("18: a drain moves a deaf area to a site that is equally far", three, "drains(0) = 1; ticks(1) = 0;",
                "siteOf(0, 2) = 1; siteOf(0, 3) = 1; of(0, 2) = 1; of(0, 3) = 1; ticks(1) = 0; siteOf(0, 3) = 2");
        Runs.run("18: and waits if that one would be overloaded", three, "rooms(1, 4) = 9; drains(0) = 1; ticks(3) = 0;",
                "told(10) = 3; siteOf(0, 2) = 0; of(0, 2) = 0; steps(1, 1) = 0; ticks(1) = 0; of(0, 2) = 2; told(10) = 3");
        Runs.run("18: it does not move a deaf area to one that is farther", "area(5) = 0; area(0) = 1; line(0, 1, 1) = 0;",
                "mood(0, 1) = 0; site(0, 9) = 0; site(1, 9) = 1; drains(0) = 1; ticks(4) = 0; siteOf(0, 2) = 4;",
                "of(0, 2) = 0; ticks(1) = 0; siteOf(0, 3) = 2; of(0, 2) = 1");
        Runs.run("13: safe to go, for a deaf area goes to the smallest step", three, "rooms(1, 4) = 9; siteOf(0, 9) = 0;",
                "order(1, 0) = -1; worst(1, 0) = 1; steps(1, 1) = 0; siteOf(0, 9) = 1; order(1, 0) = 0; worst(1, 0) = 0;",
                "order(5, 0) = -1; order(7, 0) = 0; order(7, 1) = 1; order(7, 2) = 2");
        Runs.run("15: a session of a deaf area begins at the smallest step", three, "steps(0, 1) = 0; opens(0, 1, 9) = 1;",
                "session(0, 1) = 1; steps(1, 1) = 0; opens(0, 1, 9) = 2; session(1, 1) = 2; session(0, 4) = 1");
        Runs.run("5: becoming loyal, a deaf area keeps the site with the smallest step", three, "steps(0, 1) = 0;",
                "mood(0, 2) = 1; of(0, 3) = 1; steps(0, 0) = 1; of(0, 2) = 1");
    }

    private static void loyalCatches() {
        String pair = "area(0) = 0; area(0) = 1; line(0, 1, 1) = 0; site(0, 9) = 0; site(1, 9) = 1;";
        Runs.run("12: loyal without a last site: the nearest, until a tick makes it the last",
                "area(0) = 0; mood(0, 2) = 0; site(0, 9) = 0; site(0, 9) = 1; of(0, 2) = 0; of(0, 3) = -1; steps(0, 1) = 0;",
                "of(0, 2) = 1; ticks(1) = 0; of(0, 3) = 1; steps(0, 0) = 1; of(0, 2) = 1; mood(0, 0) = 2; of(0, 2) = 0");
        Runs.run("12: loyal at the greatest step", pair, "mood(0, 2) = 0; steps(0, 4) = 0; of(0, 2) = 0; seems(0, 0) = 12;",
                "seems(0, 1) = 1; ticks(30) = 0; of(0, 2) = 0");
        Runs.run("12: loyal, but the last site is off: the nearest, unless it is on again before a tick", pair,
                "mood(0, 2) = 0; cuts(0) = 2; of(0, 2) = 1; of(0, 3) = 0; cuts(0) = 0; of(0, 2) = 0; cuts(0) = 2;",
                "ticks(1) = 0; cuts(0) = 0; of(0, 2) = 1; of(0, 3) = 1");
        Runs.run("12: loyal, but there is no way to the last site", pair, "mood(0, 2) = 0; steps(0, 4) = 0; mood(1, 2) = 0;",
                "of(1, 3) = 1; line(0, 1, 0) = 1; of(1, 2) = 1; site(1, 9) = 2; of(1, 2) = 1; cuts(1) = 2;",
                "of(1, 2) = 2; cuts(2) = 2; of(1, 2) = -1; of(1, 3) = 1; ticks(1) = 0; of(1, 3) = -1; of(0, 3) = 0");
        Runs.run("12: loyal at a draining last site", pair, "mood(0, 2) = 0; drains(0) = 1; of(0, 2) = 0;",
                "ticks(4) = 0; of(0, 2) = 0; siteOf(0, 2) = 4; ticks(1) = 0; of(0, 2) = 1; of(0, 3) = 1");
    }

    private static void loads() {
        Runs.run("13: nothing to carry and no room is no overload", "area(0) = 0; site(0, 0) = 0; siteOf(0, 4) = 0;",
                "siteOf(0, 5) = 0; siteOf(0, 6) = 1; wants(0, 1) = 0; siteOf(0, 4) = 1; siteOf(0, 5) = 1;",
                "cuts(0) = 2; siteOf(0, 4) = 0; siteOf(0, 5) = 0");
        Runs.run("13: the greatest load of demands", CHAIN, "site(3, 792) = 0; siteOf(0, 4) = 792; siteOf(0, 5) = 0;",
                "siteOf(0, 6) = 255; rooms(0, 791) = 792; siteOf(0, 5) = 1; rooms(0, 999) = 791; siteOf(0, 5) = 0");
        String heavy = "area(0) = 0; site(0, 108) = 0; site(0, 0) = 1;" + TWELVE;
        Runs.run("13: the greatest load of sessions", heavy, "siteOf(0, 4) = 0; siteOf(0, 7) = 12;",
                "of(0, 5) = 12; steps(0, 1) = 0; siteOf(0, 4) = 108; siteOf(0, 5) = 0; rooms(0, 107) = 108;",
                "siteOf(0, 5) = 1; siteOf(1, 4) = 0; siteOf(1, 7) = 0");
        Runs.run("13: the load of a site that is off, which is not overloaded", heavy, "rooms(0, 0) = 108;",
                "cuts(0) = 2; siteOf(0, 4) = 108; siteOf(0, 5) = 0; siteOf(0, 6) = 0; siteOf(0, 7) = 12;",
                "cuts(1) = 2; siteOf(0, 4) = 108; siteOf(1, 4) = 0");
        Runs.run("16: carried, not carried, and carried without a catch", "area(0) = 0; site(0, 9) = 0; site(0, 9) = 1;",
                "opens(0, 1, 9) = 1; session(0, 4) = 0; steps(0, 1) = 0; session(0, 4) = 1; cuts(1) = 2; session(0, 4) = 0;",
                "cuts(0) = 2; session(0, 4) = 1; siteOf(0, 4) = 1; cuts(0) = 0; session(0, 4) = 0; siteOf(0, 4) = 0");
        Runs.run("13: a draining site is not off, so it can be overloaded", "area(5) = 0; site(0, 5) = 0;",
                "drains(0) = 1; siteOf(0, 5) = 0; rooms(0, 4) = 5; siteOf(0, 5) = 1");
    }

    private static void safeToGo() {
        Runs.run("13: safe to go up to the capacity of the others", "area(5) = 0; site(0, 5) = 0; site(0, 5) = 1;",
                "siteOf(0, 9) = 1; rooms(1, 4) = 5; siteOf(0, 9) = 0; siteOf(1, 9) = 1; drains(0) = 1; siteOf(0, 9) = 0;",
                "rooms(1, 5) = 4; siteOf(0, 9) = 1; cuts(0) = 2; siteOf(0, 9) = 0; siteOf(1, 9) = 1");
        Runs.run("13: not safe if a site is overloaded already, though it would not become worse",
                "area(5) = 0; area(5) = 1; site(0, 4) = 0; site(1, 5) = 1; siteOf(0, 5) = 1; siteOf(1, 9) = 0;",
                "siteOf(0, 9) = 1; rooms(0, 5) = 4; siteOf(1, 9) = 1; rooms(0, 4) = 5; cuts(0) = 2; siteOf(1, 9) = 1");
        Runs.run("13: safe if it relieves nobody but itself", "area(5) = 0; site(0, 0) = 0; siteOf(0, 5) = 1;",
                "siteOf(0, 9) = 1; site(0, 0) = 1; siteOf(0, 9) = 0; siteOf(1, 9) = 0; wants(0, 0) = 5; siteOf(0, 9) = 1;",
                "siteOf(1, 9) = 1");
        Runs.run("13: a loyal area whose last site it is goes to the next", "area(5) = 0; site(0, 5) = 0; mood(0, 2) = 0;",
                "site(0, 4) = 1; siteOf(0, 9) = 0; rooms(1, 5) = 4; siteOf(0, 9) = 1; siteOf(1, 9) = 1; of(0, 2) = 0");
    }

    private static void sessions() {
        Runs.run("15: the twelfth session, no thirteenth, and room again", "area(0) = 0; site(0, 9) = 0;", TWELVE,
                "opens(0, 1, 1) = -4; told(6) = 12; ends(11) = 11; opens(0, 1, 1) = 12; session(11, 3) = 1;",
                "opens(0, 1, 1) = -4; ticks(1) = 1; opens(0, 2, 2) = 12; back() = 4; told(6) = 11; told(2) = 2");
        Runs.run("15: the weights and the ticks", "area(0) = 0; site(0, 9) = 0; opens(0, 1, 1) = 1; opens(0, 9, 30) = 2;",
                "opens(0, 0, 1) = -2; opens(0, 10, 1) = -2; opens(0, 1, 0) = -2; opens(0, 1, 31) = -2; opens(1, 1, 1) = -2;",
                "opens(-1, 1, 1) = -2; told(6) = 2; session(0, 2) = 1; session(0, 3) = 1; session(1, 2) = 9;",
                "session(1, 3) = 30; told(0) = 6");
        Runs.run("15: a session beyond all capacity begins too", "area(9) = 0; site(0, 0) = 0; siteOf(0, 5) = 1;",
                "opens(0, 9, 30) = 1");
        Runs.run("16: the numbers of sessions", "session(0, 4) = -1; session(0, 5) = -2;",
                "area(0) = 0; site(0, 9) = 0;", TWELVE,
                "session(11, 0) = 0; session(12, 0) = -1; session(11, 5) = -2; session(12, 5) = -2; session(-1, 0) = -2;",
                "session(2147483647, 0) = -1; session(-2147483648, 0) = -2; told(0) = 5; told(1) = 0");
        Runs.run("17: the first, the last, and one too many", "ends(0) = -2; area(0) = 0; site(0, 9) = 0;",
                "opens(0, 1, 9) = 1; opens(0, 2, 9) = 2; opens(0, 3, 9) = 3; ends(3) = -2; ends(-1) = -2;",
                "ends(2) = 2; session(1, 2) = 2; ends(2) = -2; ends(0) = 1; session(0, 2) = 2; ends(0) = 0; ends(0) = -2;",
                "told(8) = 3; told(0) = 5; told(6) = 0");
    }

    private static void sessionsInTicks() {
        String one = "area(0) = 0; site(0, 9) = 0;";
        Runs.run("18: one tick is left", one, "opens(0, 1, 1) = 1; ticks(1) = 1; told(6) = 0; told(8) = 1; told(9) = 0;",
                "session(0, 0) = -1");
        Runs.run("18: two ticks are left", one, "opens(0, 1, 2) = 1; ticks(1) = 0; session(0, 3) = 1;",
                "ticks(1) = 1; told(8) = 1");
        Runs.run("18: thirty ticks are left", one, "opens(0, 1, 30) = 1; ticks(29) = 0; session(0, 3) = 1;",
                "ticks(1) = 1; back() = 4; back() = 3; session(0, 3) = 30; ticks(30) = 1; told(6) = 0; told(7) = 30");
        Runs.run("18: all twelve end in one call", one, TWELVE, "ticks(30) = 12; told(6) = 0; told(8) = 12;",
                "ticks(30) = 0; told(8) = 12");
        Runs.run("18: all twelve end in one tick", one, TWELVE, "ticks(29) = 0; told(6) = 12; ticks(1) = 12; told(6) = 0");
        Runs.run("18: when some end, the later ones move up", one, "opens(0, 1, 1) = 1; opens(0, 2, 3) = 2;",
                "opens(0, 3, 1) = 3; opens(0, 4, 2) = 4; opens(0, 5, 1) = 5; ticks(1) = 3; session(0, 2) = 2;",
                "session(0, 3) = 2; session(1, 2) = 4; session(1, 3) = 1; session(2, 0) = -1; ticks(2) = 2; told(8) = 5");
    }

    private static void brokenSessions() {
        String pair = "area(0) = 0; area(0) = 1; line(0, 1, 1) = 0; site(0, 9) = 0; site(1, 9) = 1;";
        Runs.run("18: at a site that is off the last tick ends it, one more breaks it", pair, "opens(0, 1, 1) = 1;",
                "opens(0, 2, 2) = 2; cuts(0) = 2; ticks(1) = 1; told(8) = 1; told(9) = 1; session(0, 1) = 1;",
                "session(0, 2) = 2; session(0, 3) = 1; session(0, 4) = 0; ticks(1) = 1; told(9) = 1; told(8) = 2");
        Runs.run("18: without a catch it ends, and is counted as broken too", "area(0) = 0; site(0, 9) = 0;",
                "opens(0, 1, 1) = 1; opens(0, 1, 2) = 2; opens(0, 1, 30) = 3; cuts(0) = 2; ticks(1) = 3;",
                "told(6) = 0; told(8) = 3; told(9) = 2");
        Runs.run("18: a draining site breaks nothing", pair, "opens(0, 1, 9) = 1; drains(0) = 1; ticks(1) = 0;",
                "told(9) = 0; session(0, 1) = 0; session(0, 4) = 1");
        Runs.run("18: broken as often as its site is off", pair, "opens(0, 1, 30) = 1; cuts(0) = 2; ticks(1) = 0;",
                "cuts(0) = 0; cuts(1) = 2; session(0, 1) = 1; ticks(1) = 0; session(0, 1) = 0; told(9) = 2; told(8) = 0;",
                "ticks(1) = 0; told(9) = 2");
        Runs.run("18: all twelve are broken", "area(0) = 0; site(0, 9) = 0; site(0, 9) = 1;", TWELVE, "cuts(0) = 2;",
                "ticks(1) = 0; told(9) = 12; siteOf(1, 7) = 12; siteOf(0, 7) = 0; siteOf(1, 4) = 0;",
                "cuts(1) = 2; ticks(1) = 12; told(9) = 24; told(8) = 12");
        Runs.run("18: a site without a way is not off, so nothing is broken", pair, "opens(0, 1, 9) = 1;",
                "area(0) = 2; line(0, 2, 1) = 0; opens(2, 1, 9) = 2; line(0, 2, 0) = 1; of(2, 2) = -1; ticks(1) = 0;",
                "told(9) = 0; session(1, 1) = 0; session(1, 4) = 1");
    }

    private static void firstOfTheQueue() {
        Runs.run("18: an empty queue", "area(5) = 0; site(0, 4) = 0; ticks(30) = 0; siteOf(0, 2) = 0; siteOf(0, 3) = 0;",
                "told(10) = 0");
        Runs.run("18: a site that is the catch of no area is off at once", "area(5) = 0; site(0, 5) = 0; site(0, 0) = 1;",
                "steps(1, 3) = 0; drains(1) = 1; ticks(1) = 0; siteOf(1, 3) = 2; siteOf(1, 2) = 0; siteOf(1, 8) = -1;",
                "told(11) = 0; told(10) = 0");
        Runs.run("18: an area that wants nothing is caught as well", "area(0) = 0; site(0, 0) = 0;",
                "drains(0) = 1; ticks(1) = 0; siteOf(0, 3) = 1; siteOf(0, 2) = 1; ticks(3) = 0; siteOf(0, 2) = 4;",
                "siteOf(0, 3) = 1; ticks(1) = 0; siteOf(0, 3) = 2; told(11) = 0");
        Runs.run("18: one site in each tick", "area(5) = 0; site(0, 9) = 0; site(0, 9) = 1; site(0, 9) = 2;",
                "drains(2) = 1; drains(1) = 2; ticks(1) = 0; siteOf(2, 3) = 2; siteOf(1, 3) = 1; siteOf(1, 8) = 0;",
                "ticks(1) = 0; siteOf(1, 3) = 2; told(11) = 0; ticks(1) = 0; siteOf(0, 3) = 0");
        Runs.run("18: all five, one after the other", "area(5) = 0; site(0, 9) = 0; site(0, 9) = 1; site(0, 9) = 2;",
                "site(0, 9) = 3; site(0, 9) = 4; drains(4) = 1; drains(3) = 2; drains(2) = 3; drains(1) = 4;",
                "drains(0) = 5; ticks(4) = 0; told(11) = 1; siteOf(0, 3) = 1; siteOf(0, 2) = 0;",
                "ticks(4) = 0; siteOf(0, 2) = 4; told(11) = 1; ticks(1) = 0; told(11) = 0; of(0, 2) = -1; told(10) = 0");
    }

    private static void lastStep() {
        String alone = "area(5) = 0; site(0, 5) = 0;";
        Runs.run("18: the step 3 becomes 4", alone, "steps(0, 3) = 0; drains(0) = 1; ticks(1) = 0; siteOf(0, 2) = 4;",
                "siteOf(0, 3) = 1; ticks(1) = 0; siteOf(0, 2) = 0; siteOf(0, 3) = 2");
        Runs.run("18: the step 4 is the last", alone, "steps(0, 4) = 0; drains(0) = 1; of(0, 2) = 0;",
                "ticks(1) = 0; siteOf(0, 3) = 2; siteOf(0, 2) = 0; told(11) = 0; of(0, 2) = -1; of(0, 3) = -1");
        Runs.run("18: a plan can set a draining site back", "area(5) = 0; site(0, 5) = 0; drains(0) = 1; ticks(3) = 0;",
                "siteOf(0, 2) = 3; lays() = 0; siteOf(0, 2) = 0; siteOf(0, 3) = 1; ticks(4) = 0; siteOf(0, 2) = 4;",
                "siteOf(0, 3) = 1; ticks(1) = 0; siteOf(0, 3) = 2");
        Runs.run("18: in one call as in many", alone, "drains(0) = 1; ticks(5) = 0; siteOf(0, 3) = 2; told(7) = 5");
    }

    private static void delays() {
        Runs.run("18: another one becomes full but not overloaded", "area(5) = 0; site(0, 5) = 0; site(0, 5) = 1;",
                "drains(0) = 1; ticks(1) = 0; siteOf(0, 2) = 1; told(10) = 0; siteOf(1, 4) = 5; siteOf(1, 5) = 0");
        Runs.run("18: another one would be overloaded by one", "area(5) = 0; site(0, 5) = 0; site(0, 4) = 1;",
                "drains(0) = 1; ticks(1) = 0; siteOf(0, 2) = 0; siteOf(0, 3) = 1; siteOf(0, 8) = 0;",
                "told(10) = 1; told(7) = 1; told(11) = 1; ticks(30) = 0; told(10) = 31; siteOf(0, 2) = 0;",
                "of(0, 3) = 0; rooms(1, 5) = 4; ticks(1) = 0; told(10) = 31; siteOf(0, 2) = 1");
        Runs.run("18: another one is overloaded before, and becomes worse", "area(5) = 0; area(6) = 1; line(0, 1, 1) = 0;",
                "site(0, 5) = 0; site(1, 5) = 1; siteOf(1, 5) = 1; drains(0) = 1; ticks(1) = 0;",
                "told(10) = 0; siteOf(0, 2) = 1; siteOf(1, 4) = 11");
        Runs.run("18: one is overloaded before, and a third one would be", "area(5) = 0; area(6) = 1; line(0, 1, 1) = 0;",
                "site(0, 5) = 0; site(1, 5) = 1; site(0, 4) = 2; siteOf(1, 5) = 1; drains(0) = 1; ticks(1) = 0;",
                "told(10) = 1; siteOf(0, 2) = 0");
        Runs.run("18: a draining one counts like one that is on", "area(5) = 0; site(0, 5) = 0; site(0, 4) = 1;",
                "drains(0) = 1; drains(1) = 2; ticks(1) = 0; told(10) = 1; siteOf(0, 2) = 0; siteOf(1, 2) = 0;",
                "told(11) = 2");
        Runs.run("18: one that is off does not", "area(5) = 0; site(0, 5) = 0; site(0, 4) = 1; drains(0) = 1; cuts(1) = 2;",
                "ticks(5) = 0; told(10) = 0; siteOf(0, 3) = 2");
        Runs.run("18: the draining site itself does not", "area(5) = 0; site(0, 0) = 0; site(0, 9) = 1;",
                "opens(0, 9, 30) = 1; wants(0, 0) = 5; siteOf(0, 5) = 0; drains(0) = 1; ticks(1) = 0;",
                "told(10) = 0; siteOf(0, 2) = 1; siteOf(0, 5) = 1");
        Runs.run("18: going off is delayed at the step 4 as well", "area(5) = 0; site(0, 5) = 0; mood(0, 2) = 0;",
                "site(0, 4) = 1; steps(0, 4) = 0; drains(0) = 1; ticks(2) = 0; told(10) = 2; siteOf(0, 2) = 4;",
                "siteOf(0, 3) = 1; rooms(1, 5) = 4; ticks(1) = 0; siteOf(0, 3) = 2; siteOf(0, 2) = 0;",
                "told(10) = 2; of(0, 2) = 1");
    }

    private static void lastSites() {
        Runs.run("18: the last sites at first, after a tick, and when there is no catch any more",
                "area(0) = 0; area(0) = 1; site(0, 9) = 0; of(0, 3) = -1; ticks(1) = 0; of(0, 3) = 0; of(1, 3) = -1;",
                "cuts(0) = 2; of(0, 3) = 0; ticks(1) = 0; of(0, 3) = -1; back() = 4; of(0, 3) = 0");
        Runs.run("18: they are of the latest tick alone", "area(0) = 0; site(0, 9) = 0; site(0, 9) = 1;",
                "ticks(1) = 0; steps(0, 1) = 0; of(0, 2) = 1; of(0, 3) = 0; ticks(1) = 0; of(0, 3) = 1");
    }

    private static void time() {
        Runs.run("18: the ticks of one call", "ticks(1) = 0; told(7) = 1; ticks(30) = 0; told(7) = 31; ticks(31) = -2;",
                "ticks(0) = -2; ticks(-1) = -2; told(7) = 31; told(12) = 2; told(0) = 3; back() = 1;",
                "told(7) = 1; back() = 0; told(7) = 0");
        AnySites x = Runs.run("18: much time", "area(5) = 0; site(0, 5) = 0; site(0, 4) = 1; drains(0) = 1");
        for (int i = 1; i <= 500; i++) {
            Runs.due("18: much time", "ticks(30)", x.ticks(30), 0);
        }
        Runs.go(x, "18: much time", "told(7) = 15000; told(10) = 15000; told(12) = 5; back() = 4; told(7) = 14970");
    }
}
