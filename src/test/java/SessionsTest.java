/** Promises 15 to 18: sessions and ticks. */
public final class SessionsTest {
    private static final String CHAIN = "area(10) = 0; area(20) = 1; area(30) = 2; line(0, 1, 2) = 0; line(1, 2, 3) = 0;";
    private static final String TWO_SITES = CHAIN + "site(0, 100) = 0; site(2, 100) = 1;";

    public static void main(String[] args) {
        opens();
        session();
        ends();
        agesAndBreaks();
        drainsOff();
        delays();
        lastSites();
        Runs.finish();
    }

    private static void opens() {
        Runs.run("15: it begins at the catch of the area, a draining one too",
                TWO_SITES, "opens(1, 9, 30) = 1; opens(2, 1, 1) = 2; session(0, 1) = 0; session(1, 1) = 1; drains(0) = 1;",
                "opens(0, 2, 2) = 3; session(2, 1) = 0; told(12) = 5; back() = 4; told(6) = 2");
        Runs.run("15: BAD before NO before FULL",
                "opens(0, 1, 1) = -2;", TWO_SITES, "area(0) = 3; opens(3, 1, 1) = -3; opens(3, 0, 1) = -2; opens(3, 10, 1) = -2;",
                "opens(3, 1, 0) = -2; opens(3, 1, 31) = -2; opens(-1, 1, 1) = -2; opens(4, 1, 1) = -2;",
                "opens(0, 1, 1) = 1; opens(0, 1, 1) = 2; opens(0, 1, 1) = 3; opens(0, 1, 1) = 4; opens(0, 1, 1) = 5;",
                "opens(0, 1, 1) = 6; opens(0, 1, 1) = 7; opens(0, 1, 1) = 8; opens(0, 1, 1) = 9; opens(0, 1, 1) = 10;",
                "opens(0, 1, 1) = 11; opens(0, 1, 1) = 12; opens(0, 1, 1) = -4; opens(3, 1, 1) = -3; opens(0, 0, 1) = -2;",
                "told(0) = 8; told(1) = 2; told(2) = 1; told(6) = 12");
    }

    private static void session() {
        Runs.run("16: every value of a session",
                TWO_SITES, "opens(1, 7, 20) = 1; session(0, 0) = 1; session(0, 1) = 0; session(0, 2) = 7; session(0, 3) = 20;",
                "session(0, 4) = 0; steps(0, 4) = 0; session(0, 4) = 1; cuts(1) = 2; session(0, 4) = 0; cuts(0) = 2;",
                "session(0, 4) = 1; session(0, 1) = 0");
        Runs.run("16: BAD before NONE",
                TWO_SITES, "session(0, 0) = -1; session(2147483647, 4) = -1; session(0, 5) = -2; session(0, -1) = -2;",
                "session(-1, 0) = -2; opens(0, 1, 1) = 1; session(1, 0) = -1; session(1, 5) = -2; told(0) = 4");
    }

    private static void ends() {
        Runs.run("17: the later ones move up",
                TWO_SITES, "opens(0, 1, 5) = 1; opens(1, 2, 6) = 2; opens(2, 3, 7) = 3; ends(1) = 2; session(1, 0) = 2;",
                "session(1, 1) = 1; session(1, 2) = 3; session(1, 3) = 7; session(0, 2) = 1; session(2, 0) = -1;",
                "told(8) = 1; ends(0) = 1; session(0, 2) = 3; ends(0) = 0; told(8) = 3; told(6) = 0; back() = 4;",
                "told(8) = 2; session(0, 2) = 3");
        Runs.run("17: of as many sessions as there can be",
                TWO_SITES, "opens(0, 1, 1) = 1; opens(0, 2, 2) = 2; opens(0, 3, 3) = 3; opens(0, 4, 4) = 4; opens(0, 5, 5) = 5;",
                "opens(0, 6, 6) = 6; opens(0, 7, 7) = 7; opens(0, 8, 8) = 8; opens(0, 9, 9) = 9; opens(0, 1, 10) = 10;",
                "opens(0, 2, 11) = 11; opens(2, 3, 12) = 12; ends(0) = 11; session(10, 3) = 12; session(10, 1) = 1;",
                "session(11, 0) = -1; opens(1, 9, 30) = 12; session(11, 3) = 30; ticks(5) = 4; told(6) = 8;",
                "session(0, 2) = 6; session(7, 2) = 9; session(6, 3) = 7");
        Runs.run("17: wrong inputs",
                "ends(0) = -2;", TWO_SITES, "opens(0, 1, 5) = 1; ends(1) = -2; ends(-1) = -2; told(0) = 3; told(8) = 0");
    }

    private static void agesAndBreaks() {
        Runs.run("18: how many ended, and wrong inputs",
                TWO_SITES, "ticks(0) = -2; ticks(31) = -2; ticks(-1) = -2; told(7) = 0; ticks(30) = 0; told(7) = 30;",
                "opens(0, 1, 1) = 1; opens(0, 1, 30) = 2; opens(1, 1, 2) = 3; ticks(1) = 1; told(8) = 1; session(0, 3) = 29;",
                "session(1, 3) = 1; ticks(2) = 1; told(8) = 2; ticks(27) = 1; told(6) = 0; told(8) = 3; back() = 4;",
                "told(6) = 1; told(8) = 2; told(7) = 33; session(0, 3) = 27");
        Runs.run("18: a session whose site is off is broken and moves to the catch",
                TWO_SITES, "opens(0, 1, 5) = 1; opens(2, 2, 5) = 2; cuts(0) = 2; told(9) = 0; ticks(1) = 0; told(9) = 1;",
                "session(0, 1) = 1; session(0, 3) = 4; session(0, 4) = 0; ticks(1) = 0; told(9) = 1");
        Runs.run("18: without a catch it is broken and ends",
                TWO_SITES, "opens(0, 1, 5) = 1; opens(2, 2, 5) = 2; cuts(0) = 2; line(0, 1, 0) = 2; ticks(1) = 1; told(9) = 1;",
                "told(8) = 1; session(0, 0) = 2; session(0, 1) = 1");
        Runs.run("18: one whose time is over ends without being broken",
                TWO_SITES, "opens(0, 1, 1) = 1; opens(1, 1, 2) = 2; cuts(0) = 2; ticks(1) = 1; told(9) = 1; told(8) = 1;",
                "session(0, 0) = 1");
        Runs.run("18: a site that goes off and comes back between ticks breaks nothing",
                TWO_SITES, "opens(0, 1, 5) = 1; cuts(0) = 2; cuts(0) = 0; ticks(1) = 0; told(9) = 0; session(0, 1) = 0");
        Runs.run("18: it moves to the last site of a loyal area, if that is its catch",
                TWO_SITES, "opens(1, 1, 9) = 1; steps(0, 4) = 0; mood(1, 2) = 0; of(1, 3) = 1; site(1, 100) = 2;",
                "cuts(0) = 2; ticks(1) = 0; session(0, 1) = 1; told(9) = 1");
    }

    private static void drainsOff() {
        Runs.run("18: a step at each tick until nothing is caught, then off with the step 0",
                TWO_SITES, "drains(0) = 1; ticks(1) = 0; siteOf(0, 2) = 1; siteOf(0, 6) = 1; ticks(1) = 0;",
                "siteOf(0, 2) = 2; siteOf(0, 6) = 0; siteOf(0, 3) = 1; ticks(1) = 0; siteOf(0, 2) = 0; siteOf(0, 3) = 2;",
                "siteOf(0, 8) = -1; told(11) = 0; told(10) = 0");
        Runs.run("18: a site that a loyal area holds on to goes off at the step 4",
                TWO_SITES, "mood(0, 2) = 0; drains(0) = 1; ticks(4) = 0; siteOf(0, 2) = 4; siteOf(0, 3) = 1; of(0, 2) = 0;",
                "ticks(1) = 0; siteOf(0, 3) = 2; siteOf(0, 2) = 0; of(0, 2) = 1; of(0, 3) = 1");
        Runs.run("18: only the first of the queue moves, in the order of draining",
                TWO_SITES, "area(0) = 3; line(0, 3, 1) = 0; site(3, 200) = 2; drains(1) = 1; drains(0) = 2; ticks(1) = 0;",
                "siteOf(1, 2) = 1; siteOf(0, 2) = 0; told(11) = 2; ticks(1) = 0; siteOf(1, 2) = 2; siteOf(1, 6) = 0;",
                "ticks(1) = 0; siteOf(1, 3) = 2; siteOf(0, 8) = 0; siteOf(0, 2) = 0; ticks(1) = 0; siteOf(0, 2) = 1;",
                "told(11) = 1");
        Runs.run("18: the last site goes off too, and takes the last sites away",
                "area(5) = 0; site(0, 9) = 0; opens(0, 1, 30) = 1; drains(0) = 1; ticks(4) = 0; siteOf(0, 2) = 4;",
                "ticks(1) = 0; siteOf(0, 3) = 2; of(0, 3) = -1; told(6) = 1; ticks(1) = 1; told(9) = 1; told(8) = 1");
        Runs.run("18: sessions age before the drain, so one is broken a tick after its site went off",
                TWO_SITES, "opens(0, 1, 9) = 1; drains(0) = 1; ticks(3) = 0; siteOf(0, 3) = 2; told(9) = 0; session(0, 1) = 0;",
                "ticks(1) = 0; told(9) = 1; session(0, 1) = 1");
    }

    private static void delays() {
        String tight = CHAIN + "site(0, 30) = 0; site(2, 49) = 1;";
        Runs.run("18: a step that would overload another site is not done, and counted each time",
                tight, "drains(0) = 1; ticks(3) = 0; siteOf(0, 2) = 0; siteOf(0, 8) = 0; told(10) = 3; rooms(1, 50) = 49;",
                "ticks(1) = 0; siteOf(0, 2) = 1; told(10) = 3; ticks(1) = 0; siteOf(0, 2) = 1; told(10) = 4; back() = 4;",
                "told(10) = 3; told(7) = 4");
        Runs.run("18: one that is overloaded already does not delay",
                tight, "rooms(1, 29) = 49; siteOf(1, 5) = 1; drains(0) = 1; ticks(2) = 0; siteOf(0, 2) = 2; told(10) = 0");
        Runs.run("18: the draining site itself may be overloaded by its sessions",
                "area(5) = 0; site(0, 5) = 0; site(0, 9) = 1; opens(0, 9, 30) = 1; siteOf(0, 5) = 0; drains(0) = 1;",
                "ticks(1) = 0; told(10) = 0; siteOf(0, 2) = 1; siteOf(0, 4) = 9; siteOf(0, 5) = 1");
        Runs.run("18: going off can be delayed too",
                tight, "rooms(1, 59) = 49; mood(0, 2) = 0; drains(0) = 1; ticks(4) = 0; siteOf(0, 2) = 4; ticks(1) = 0;",
                "siteOf(0, 3) = 1; siteOf(0, 2) = 4; told(10) = 1; rooms(1, 60) = 59; ticks(1) = 0; siteOf(0, 3) = 2");
        Runs.run("18: a delayed first one holds up the others",
                tight, "site(1, 0) = 2; steps(2, 4) = 0; drains(0) = 1; drains(2) = 2; ticks(2) = 0; told(10) = 2;",
                "siteOf(2, 3) = 1; cuts(0) = 2; siteOf(2, 8) = 0; ticks(1) = 0; siteOf(2, 3) = 2");
        String carried = "area(10) = 0; area(0) = 1; area(0) = 2; line(0, 1, 1) = 0; line(1, 2, 1) = 0;"
                + "site(0, 99) = 0; site(1, 10) = 1;";
        Runs.run("18: a session that ends in this tick makes room for the drain",
                carried, "opens(2, 9, 1) = 1; line(1, 2, 0) = 1; siteOf(1, 4) = 9; drains(0) = 1; ticks(1) = 1;",
                "told(10) = 0; siteOf(0, 2) = 1; siteOf(1, 4) = 10");
        Runs.run("18: one that stays does not",
                carried, "opens(2, 9, 2) = 1; line(1, 2, 0) = 1; siteOf(1, 4) = 9; drains(0) = 1; ticks(1) = 0;",
                "told(10) = 1; siteOf(0, 2) = 0; siteOf(1, 4) = 9; ticks(1) = 1; told(10) = 1; siteOf(0, 2) = 1");
    }

    private static void lastSites() {
        Runs.run("18: the last sites are the catches after the drain of the tick",
                TWO_SITES, "of(1, 3) = -1; drains(0) = 1; ticks(1) = 0; of(0, 3) = 0; of(1, 3) = 1; of(2, 3) = 1;",
                "area(1) = 3; ticks(1) = 0; of(3, 3) = -1; of(0, 3) = 1");
        Runs.run("18: a loyal area that lost its site stays at the next one",
                TWO_SITES, "mood(0, 2) = 0; cuts(0) = 2; of(0, 2) = 1; cuts(0) = 0; of(0, 2) = 0; cuts(0) = 2; ticks(1) = 0;",
                "of(0, 3) = 1; cuts(0) = 0; of(0, 2) = 1; ticks(1) = 0; of(0, 3) = 1");
        Runs.run("18: without a catch the last site becomes none",
                TWO_SITES, "ticks(1) = 0; of(0, 3) = 0; cuts(0) = 2; cuts(1) = 2; of(0, 3) = 0; ticks(1) = 0; of(0, 3) = -1");
    }
}
