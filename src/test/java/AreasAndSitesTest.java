/** Promises 1 to 10: a new object, and the acts on areas, lines and sites. */
public final class AreasAndSitesTest {
    private static final String TWO_AREAS = "area(10) = 0; area(20) = 1; line(0, 1, 2) = 0;";
    private static final String TWO_SITES = TWO_AREAS + "site(0, 30) = 0; site(1, 30) = 1;";

    public static void main(String[] args) {
        newObject();
        area();
        wants();
        line();
        mood();
        site();
        rooms();
        steps();
        drains();
        cuts();
        Runs.finish();
    }

    private static void newObject() {
        Runs.run("1: nothing is there and nothing is counted",
                "told(0) = 0; told(1) = 0; told(2) = 0; told(3) = 0; told(4) = 0; told(5) = 0; told(6) = 0;",
                "told(7) = 0; told(8) = 0; told(9) = 0; told(10) = 0; told(11) = 0; told(12) = 0");
        Runs.run("1: no area, site or session can be asked",
                "of(0, 0) = -2; siteOf(0, 0) = -2; session(0, 0) = -1; back() = -3; clear() = 0; plan(-1) = 0");
        AnySites one = new AnySites();
        AnySites other = new AnySites();
        one.area(5);
        Runs.due("1: objects do not share their state", "told(4)", other.told(4), 0);
    }

    private static void area() {
        Runs.run("2: numbers from 0 to 7, then FULL, but BAD comes first",
                "area(0) = 0; area(99) = 1; area(1) = 2; area(2) = 3; area(3) = 4; area(4) = 5; area(5) = 6; area(6) = 7;",
                "area(7) = -4; area(100) = -2; area(-1) = -2; told(4) = 8; told(2) = 1; told(0) = 2");
        Runs.run("2: the edges of the demand",
                "area(-1) = -2; area(100) = -2; area(2147483647) = -2; area(-2147483648) = -2; told(4) = 0; told(12) = 0;",
                "area(0) = 0; of(0, 0) = 0; area(99) = 1; of(1, 0) = 99; told(12) = 2");
        Runs.run("2: a new area is plain, joined to nothing, without a last site",
                "area(7) = 0; of(0, 1) = 0; of(0, 2) = -1; of(0, 3) = -1; of(0, 4) = 0; of(0, 5) = 0; area(8) = 1;",
                "far(0, 1) = -1; far(1, 1) = 0");
        Runs.run("2: an area that comes after a tick, and one that comes again, have nothing of what was before",
                "area(7) = 0; site(0, 9) = 0; ticks(1) = 0; area(8) = 1; of(1, 3) = -1; line(0, 1, 4) = 0; mood(1, 2) = 0;",
                "of(1, 3) = 0; back() = 4; back() = 3; back() = 2; area(8) = 1; far(0, 1) = -1; of(1, 1) = 0; of(1, 3) = -1");
        Runs.run("2: an act", "area(7) = 0; told(12) = 1; back() = 0; told(4) = 0");
    }

    private static void wants() {
        Runs.run("3: the previous demand",
                "area(10) = 0; wants(0, 99) = 10; wants(0, 0) = 99; wants(0, 0) = 0; of(0, 0) = 0; told(12) = 4; back() = 3;",
                "back() = 2; of(0, 0) = 99");
        Runs.run("3: wrong inputs",
                "wants(0, 1) = -2; area(10) = 0; wants(-1, 1) = -2; wants(1, 1) = -2; wants(0, -1) = -2; wants(0, 100) = -2;",
                "of(0, 0) = 10; told(0) = 5; told(12) = 1");
        Runs.run("3: the load follows the demand", TWO_SITES, "wants(1, 31) = 20; siteOf(1, 4) = 31; siteOf(1, 5) = 1");
    }

    private static void line() {
        Runs.run("4: the previous length, in both directions",
                "area(1) = 0; area(1) = 1; line(0, 1, 9) = 0; line(1, 0, 1) = 9; line(0, 1, 0) = 1; line(0, 1, 0) = 0;",
                "far(0, 1) = -1; told(12) = 5; back() = 4; back() = 3; far(0, 1) = 1; far(1, 0) = 1");
        Runs.run("4: wrong inputs",
                "line(0, 1, 1) = -2; area(1) = 0; line(0, 0, 1) = -2; line(0, 0, 0) = -2; line(0, 1, 1) = -2;",
                "line(1, 0, 1) = -2; area(1) = 1; line(0, 1, 10) = -2; line(0, 1, -1) = -2; line(-1, 1, 1) = -2;",
                "line(0, -1, 1) = -2; line(0, 2, 1) = -2; line(2, 0, 1) = -2; told(0) = 11; told(12) = 2; far(0, 1) = -1");
    }

    private static void mood() {
        Runs.run("5: the previous mood",
                "area(1) = 0; mood(0, 1) = 0; mood(0, 2) = 1; mood(0, 2) = 2; mood(0, 0) = 2; of(0, 1) = 0; told(12) = 5;",
                "back() = 4; of(0, 1) = 2");
        Runs.run("5: wrong inputs",
                "mood(0, 0) = -2; area(1) = 0; mood(0, 3) = -2; mood(0, -1) = -2; mood(1, 0) = -2; mood(-1, 0) = -2;",
                "told(0) = 5; of(0, 1) = 0; told(12) = 1");
        Runs.run("5: a deaf area does not hear steps",
                TWO_SITES, "steps(1, 1) = 0; of(1, 2) = 0; mood(1, 1) = 0; of(1, 2) = 1; seems(1, 1) = 0; seems(0, 1) = 5");
        Runs.run("5: of sites that are equally far a deaf area takes the one with the smallest step",
                "area(5) = 0; site(0, 9) = 0; site(0, 9) = 1; site(0, 9) = 2; mood(0, 1) = 0; of(0, 2) = 0; steps(0, 2) = 0;",
                "of(0, 2) = 1; steps(1, 3) = 0; steps(2, 2) = 0; of(0, 2) = 0; steps(2, 1) = 2; of(0, 2) = 2; seems(0, 2) = 0");
        Runs.run("5: a loyal area stays at the catch it had",
                TWO_SITES, "mood(1, 2) = 0; of(1, 3) = 1; steps(1, 4) = 0; of(1, 2) = 1; mood(1, 0) = 2; of(1, 2) = 0;",
                "of(1, 3) = 1; mood(1, 2) = 0; of(1, 3) = 0");
        Runs.run("5: the catch directly before that is the one of the former mood",
                TWO_SITES, "steps(1, 4) = 0; mood(1, 1) = 0; of(1, 2) = 1; mood(1, 2) = 1; of(1, 3) = 1; of(1, 2) = 1");
        Runs.run("5: an area that is loyal already keeps its last site",
                TWO_SITES, "mood(1, 2) = 0; cuts(1) = 2; of(1, 2) = 0; of(1, 3) = 1; mood(1, 2) = 2; of(1, 3) = 1;",
                "cuts(1) = 0; of(1, 2) = 1");
        Runs.run("5: without a catch the last site becomes none",
                "area(5) = 0; site(0, 9) = 0; ticks(1) = 0; of(0, 3) = 0; cuts(0) = 2; mood(0, 2) = 0; of(0, 3) = -1;",
                "cuts(0) = 0; of(0, 2) = 0");
        Runs.run("5: a loyal area whose last site has no way takes the nearest",
                TWO_SITES, "mood(1, 2) = 0; area(0) = 2; line(1, 2, 1) = 0; mood(2, 2) = 0; of(2, 3) = 1;",
                "line(1, 2, 0) = 1; of(2, 2) = -1; line(0, 2, 9) = 0; line(0, 1, 0) = 2; of(2, 2) = 0; of(2, 3) = 1");
    }

    private static void site() {
        Runs.run("6: numbers from 0 to 4, several at one area, then FULL, but BAD comes first",
                "area(1) = 0; site(0, 0) = 0; site(0, 999) = 1; site(0, 1) = 2; site(0, 1) = 3; site(0, 1) = 4;",
                "site(0, 1) = -4; site(1, 1) = -2; site(0, 1000) = -2; told(5) = 5; told(2) = 1; told(0) = 2;",
                "siteOf(0, 1) = 0; siteOf(1, 1) = 999");
        Runs.run("6: wrong inputs",
                "site(0, 1) = -2; area(1) = 0; site(-1, 1) = -2; site(1, 1) = -2; site(0, -1) = -2; site(0, 1000) = -2;",
                "told(5) = 0; told(12) = 1");
        Runs.run("6: a new site is on, with the step 0, outside of the queue, also if it comes again",
                "area(1) = 0; area(2) = 1; site(1, 9) = 0; siteOf(0, 0) = 1; siteOf(0, 1) = 9; siteOf(0, 2) = 0;",
                "siteOf(0, 3) = 0; siteOf(0, 8) = -1; steps(0, 3) = 0; drains(0) = 1; back() = 4; back() = 3; back() = 2;",
                "site(0, 8) = 0; siteOf(0, 2) = 0; siteOf(0, 3) = 0; siteOf(0, 8) = -1; told(12) = 3");
    }

    private static void rooms() {
        Runs.run("7: the previous capacity, also of a site that is off",
                TWO_SITES, "rooms(0, 999) = 30; rooms(0, 0) = 999; siteOf(0, 1) = 0; siteOf(0, 5) = 1; cuts(0) = 2;",
                "rooms(0, 7) = 0; back() = 4; siteOf(0, 1) = 0");
        Runs.run("7: wrong inputs",
                "rooms(0, 1) = -2;", TWO_SITES, "rooms(-1, 1) = -2; rooms(2, 1) = -2; rooms(0, -1) = -2;",
                "rooms(0, 1000) = -2; siteOf(0, 1) = 30; told(0) = 5; told(12) = 5; told(1) = 0");
    }

    private static void steps() {
        Runs.run("8: the previous step",
                TWO_SITES, "steps(0, 4) = 0; steps(0, 0) = 4; steps(0, 0) = 0; siteOf(0, 2) = 0; back() = 4; back() = 3;",
                "siteOf(0, 2) = 4");
        Runs.run("8: BAD before NO",
                TWO_SITES, "steps(-1, 1) = -2; steps(2, 1) = -2; steps(0, -1) = -2; steps(0, 5) = -2; drains(0) = 1;",
                "steps(0, 1) = -3; steps(0, 5) = -2; cuts(1) = 2; steps(1, 0) = -3; steps(1, 5) = -2; told(0) = 6;",
                "told(1) = 2; siteOf(0, 2) = 0; cuts(1) = 0; steps(1, 1) = 0");
        Runs.run("8: each step is 3 farther",
                TWO_SITES, "seems(0, 1) = 2; steps(1, 1) = 0; seems(0, 1) = 5; steps(1, 4) = 1; seems(0, 1) = 14");
    }

    private static void drains() {
        Runs.run("9: the queue grows at its end",
                TWO_SITES, "site(0, 1) = 2; drains(2) = 1; drains(0) = 2; siteOf(2, 8) = 0; siteOf(0, 8) = 1;",
                "siteOf(1, 8) = -1; siteOf(2, 3) = 1; siteOf(1, 3) = 0; told(11) = 2; drains(1) = 3; back() = 4;",
                "told(11) = 2; siteOf(1, 3) = 0");
        Runs.run("9: BAD, and NO if the site is not on",
                "drains(0) = -2;", TWO_SITES, "drains(-1) = -2; drains(2) = -2; drains(0) = 1; drains(0) = -3; cuts(1) = 2;",
                "drains(1) = -3; told(11) = 1; told(0) = 3; told(1) = 2");
        Runs.run("9: all five sites can drain",
                "area(1) = 0; site(0, 1) = 0; site(0, 1) = 1; site(0, 1) = 2; site(0, 1) = 3; site(0, 1) = 4;",
                "drains(4) = 1; drains(3) = 2; drains(2) = 3; drains(1) = 4; drains(0) = 5; told(11) = 5; siteOf(0, 8) = 4");
        Runs.run("9: a draining site keeps its step and still catches",
                TWO_SITES, "steps(0, 1) = 0; drains(0) = 1; siteOf(0, 2) = 1; seems(0, 0) = 3; of(0, 4) = 2");
    }

    private static void cuts() {
        Runs.run("10: off at once with the step 0, and on again with the step 0",
                TWO_SITES, "steps(0, 3) = 0; cuts(0) = 2; siteOf(0, 2) = 0; siteOf(0, 3) = 2; of(0, 2) = 1;",
                "seems(0, 0) = -1; cuts(0) = 0; siteOf(0, 2) = 0; siteOf(0, 3) = 0; of(0, 2) = 0; told(12) = 5;",
                "back() = 4; back() = 3; siteOf(0, 2) = 3");
        Runs.run("10: a draining site leaves the queue, and the others move up",
                TWO_SITES, "site(0, 1) = 2; drains(0) = 1; drains(1) = 2; drains(2) = 3; cuts(1) = 2; told(11) = 2;",
                "siteOf(0, 8) = 0; siteOf(1, 8) = -1; siteOf(2, 8) = 1; cuts(0) = 2; siteOf(2, 8) = 0; cuts(1) = 0;",
                "drains(1) = 2; siteOf(1, 8) = 1");
        Runs.run("10: wrong inputs", "cuts(0) = -2;", TWO_SITES, "cuts(-1) = -2; cuts(2) = -2; told(0) = 3; told(12) = 5");
    }
}
