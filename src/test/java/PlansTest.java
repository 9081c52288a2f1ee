/** Promises 19 to 22: plans of steps, orders of withdrawal, and joint failures. */
public final class PlansTest {
    private static final String CHAIN = "area(10) = 0; area(20) = 1; area(30) = 2; line(0, 1, 2) = 0; line(1, 2, 3) = 0;";

    public static void main(String[] args) {
        plan();
        bestPlan();
        lays();
        order();
        bestOrder();
        worst();
        Runs.finish();
    }

    private static void plan() {
        Runs.run("19: without sites, or with all of them off, the sum is 0",
                "plan(-1) = 0; plan(0) = -2; plan(-2) = -2; area(50) = 0; plan(-1) = 0; site(0, 1) = 0; plan(-1) = -1;",
                "plan(0) = -1; cuts(0) = 2; plan(-1) = 0; plan(0) = 0; plan(1) = -2; told(0) = 3");
        Runs.run("19: nothing changes by it",
                CHAIN, "site(0, 25) = 0; site(2, 60) = 1; siteOf(0, 5) = 1; plan(-1) = 1; plan(0) = 1; plan(1) = 0;",
                "siteOf(0, 2) = 0; siteOf(0, 5) = 1; told(12) = 5");
        Runs.run("19: BAD also where there is no plan", "area(9) = 0; site(0, 1) = 0; plan(-1) = -1; plan(1) = -2; plan(5) = -2;",
                "plan(-3) = -2; plan(2147483647) = -2; plan(-2147483648) = -2; told(0) = 5");
        Runs.run("19: a draining site has a step in the plan, one that is off does not count",
                CHAIN, "site(0, 25) = 0; site(2, 60) = 1; site(0, 0) = 2; cuts(2) = 2; drains(0) = 1; plan(-1) = 1;",
                "plan(0) = 1; plan(1) = 0; plan(2) = 0; cuts(2) = 0; plan(-1) = 2; plan(0) = 1; plan(1) = 0; plan(2) = 1");
        Runs.run("19: a site behind one that is off has its step",
                "area(5) = 0; site(0, 9) = 0; site(0, 0) = 1; site(0, 9) = 2; cuts(0) = 2; plan(-1) = 1; plan(1) = 1;",
                "plan(2) = 0; plan(0) = 0");
        Runs.run("19: the present steps do not matter",
                CHAIN, "site(0, 30) = 0; site(2, 60) = 1; steps(0, 4) = 0; steps(1, 4) = 0; plan(-1) = 0; plan(0) = 0;",
                "plan(1) = 0; steps(0, 0) = 4; plan(-1) = 0; rooms(0, 29) = 30; plan(0) = 1; rooms(0, 30) = 29; plan(0) = 0");
    }

    private static void bestPlan() {
        Runs.run("19: the smallest sum goes before the order of the sites",
                "area(9) = 0; site(0, 5) = 0; site(0, 5) = 1; site(0, 9) = 2; plan(-1) = 2; plan(0) = 1; plan(1) = 1;",
                "plan(2) = 0; rooms(1, 9) = 5; plan(-1) = 1; plan(0) = 1; plan(1) = 0");
        Runs.run("19: of equal sums the first one in lexicographic order",
                "area(5) = 0; area(5) = 1; line(0, 1, 2) = 0; site(0, 5) = 0; site(0, 4) = 1; site(1, 4) = 2; site(1, 5) = 3;",
                "plan(-1) = 1; plan(0) = 0; plan(1) = 0; plan(2) = 1; plan(3) = 0");
        Runs.run("19: of two plans with the same sum the one whose first site has the smaller step",
                "area(3) = 0; area(2) = 1; area(2) = 2; line(0, 1, 2) = 0; line(1, 2, 2) = 0; site(0, 4) = 0; site(2, 3) = 1;",
                "of(1, 2) = 0; siteOf(0, 5) = 1; plan(-1) = -1; rooms(1, 4) = 3; plan(-1) = 1; plan(0) = 1; site(1, 0) = 2;",
                "plan(-1) = 2; plan(0) = 1; plan(1) = 0; plan(2) = 1; rooms(0, 5) = 4; plan(-1) = 1; plan(0) = 0; plan(2) = 1");
        Runs.run("19: up to four steps, and no more",
                "area(5) = 0; area(5) = 1; area(0) = 2; line(0, 2, 6) = 0; line(2, 1, 4) = 0; site(0, 0) = 0; site(1, 10) = 1;",
                "plan(-1) = 4; line(2, 1, 6) = 4; plan(-1) = 4; plan(0) = 4; line(2, 1, 7) = 6; plan(-1) = -1");
        Runs.run("19: many steps for many sites",
                "area(5) = 0; area(5) = 1; area(0) = 2; line(0, 2, 6) = 0; line(2, 1, 6) = 0; site(0, 0) = 0; site(0, 0) = 1;",
                "site(1, 10) = 2; site(0, 0) = 3; site(0, 0) = 4; plan(-1) = 16; plan(0) = 4; plan(1) = 4; plan(2) = 0;",
                "plan(3) = 4; plan(4) = 4; rooms(3, 5) = 0; plan(-1) = 2; plan(3) = 0; plan(4) = 0; plan(2) = 0; plan(1) = 1;",
                "cuts(1) = 2; plan(-1) = 1; plan(0) = 1; plan(1) = 0; plan(3) = 0; plan(4) = 0; cuts(0) = 2; plan(-1) = 0;",
                "plan(0) = 0; plan(4) = 0; rooms(3, 0) = 5; plan(-1) = 8; plan(3) = 4; plan(4) = 4");
        Runs.run("19: a tie by a step is enough to move an area",
                "area(5) = 0; area(5) = 1; line(0, 1, 9) = 0; site(0, 0) = 0; site(1, 10) = 1; plan(0) = 3; mood(0, 1) = 0;",
                "plan(-1) = -1");
        Runs.run("19: the capacities suffice together, but no steps part the areas so",
                "area(6) = 0; area(6) = 1; line(0, 1, 0) = 0; site(0, 2) = 0; site(1, 10) = 1; plan(-1) = -1;",
                "line(0, 1, 1) = 0; plan(-1) = -1; rooms(1, 12) = 10; plan(-1) = 1; rooms(1, 11) = 12; rooms(0, 6) = 2;",
                "plan(-1) = 0");
        Runs.run("19: areas without a site do not hinder a plan",
                "area(9) = 0; area(99) = 1; site(0, 9) = 0; plan(-1) = 0; line(0, 1, 9) = 0; plan(-1) = -1");
        Runs.run("19: sessions stay at their sites in a plan, so moving an area leaves their weight",
                "area(5) = 0; site(0, 4) = 0; site(0, 9) = 1; opens(0, 4, 9) = 1; plan(-1) = 1; opens(0, 1, 9) = 2;",
                "plan(-1) = -1; ends(1) = 1; plan(-1) = 1; ends(0) = 0; plan(0) = 1");
        Runs.run("19: a loyal area does not move by steps",
                "area(5) = 0; site(0, 4) = 0; site(0, 9) = 1; plan(-1) = 1; mood(0, 2) = 0; plan(-1) = -1; cuts(0) = 2;",
                "plan(-1) = 0; ticks(1) = 0; cuts(0) = 0; plan(-1) = 0");
        Runs.run("19: a plan is found anew after every change, also one that is taken back",
                "area(5) = 0; site(0, 4) = 0; site(0, 9) = 1; plan(-1) = 1; wants(0, 4) = 5; plan(-1) = 0; back() = 3;",
                "plan(-1) = 1; rooms(0, 5) = 4; plan(-1) = 0; back() = 3; plan(-1) = 1; text(x1;); reads() = 1; plan(-1) = -1;",
                "back() = 3; plan(-1) = 1; text(x1;x9;); reads() = -1001; plan(-1) = 1; opens(0, 9, 1) = 1; plan(-1) = -1;",
                "ticks(1) = 1; plan(-1) = 1");
    }

    private static void lays() {
        Runs.run("20: each site that is not off gets its step, draining ones too",
                CHAIN, "site(0, 25) = 0; site(2, 60) = 1; steps(1, 3) = 0; drains(0) = 1; lays() = 1; siteOf(0, 2) = 1;",
                "siteOf(1, 2) = 0; siteOf(0, 3) = 1; siteOf(0, 8) = 0; siteOf(0, 5) = 0; siteOf(1, 5) = 0; told(12) = 5;",
                "back() = 4; siteOf(0, 2) = 0; siteOf(1, 2) = 3");
        Runs.run("20: an act also if nothing becomes different",
                "lays() = 0; told(12) = 1; area(5) = 0; site(0, 9) = 0; lays() = 0; told(12) = 4; cuts(0) = 2; lays() = 0;",
                "siteOf(0, 2) = 0; siteOf(0, 3) = 2");
        Runs.run("20: NO if there is no plan",
                "area(5) = 0; site(0, 4) = 0; steps(0, 2) = 0; lays() = -3; siteOf(0, 2) = 2; told(1) = 1; told(12) = 3");
    }

    private static void order() {
        String two = CHAIN + "site(0, 60) = 0; site(2, 60) = 1;";
        Runs.run("21: BAD before NO before NONE",
                "order(1, 0) = -2; order(0, 0) = -2;", two, "order(0, 0) = -2; order(4, 0) = -2; order(5, 0) = -2;",
                "order(1, -1) = -2; order(-1, 0) = -2; order(-2147483648, 0) = -2; order(32, 0) = -2; order(1073741824, 0) = -2;",
                "cuts(0) = 2; order(1, 0) = -3; order(3, 0) = -3; order(3, 9) = -3; order(1, -1) = -2; order(5, 0) = -2;",
                "order(2, 0) = 1; order(2, 1) = -1; order(2, 2147483647) = -1; told(0) = 12; told(1) = 3; told(12) = 5");
        Runs.run("21: the sites in their order, and nothing changes",
                two, "order(3, 0) = 0; order(3, 1) = 1; order(3, 2) = -1; order(1, 0) = 0; order(2, 0) = 1; order(2, 1) = -1;",
                "siteOf(0, 3) = 0; siteOf(1, 3) = 0");
    }

    private static void bestOrder() {
        Runs.run("21: another order if the first one would overload",
                CHAIN, "site(0, 60) = 0; site(2, 59) = 1; order(3, 0) = 1; order(3, 1) = 0; order(1, 0) = -1; order(2, 0) = 1;",
                "rooms(0, 59) = 60; order(3, 0) = -1; order(3, 1) = -1");
        Runs.run("21: also sites outside of the set must not be overloaded",
                CHAIN, "site(0, 99) = 0; site(2, 99) = 1; site(0, 0) = 2; order(3, 0) = -1; order(1, 0) = -1; order(2, 0) = 1;",
                "order(7, 0) = 1; order(7, 1) = 2; order(7, 2) = 0; order(6, 0) = 1; order(6, 1) = 2; order(5, 0) = 2");
        Runs.run("21: an overload that is there before is healed by the first one that goes",
                "area(9) = 0; site(0, 5) = 0; site(0, 9) = 1; siteOf(0, 5) = 1; order(3, 0) = 0; order(3, 1) = 1;",
                "order(2, 0) = -1");
        Runs.run("21: a way that begins well and ends badly is left again",
                "area(10) = 0; area(10) = 1; area(10) = 2; line(0, 1, 1) = 0; line(1, 2, 1) = 0; line(0, 2, 1) = 0;",
                "site(0, 30) = 0; site(1, 20) = 1; site(2, 10) = 2; order(1, 0) = 0; order(7, 0) = 1; order(7, 1) = 2;",
                "order(7, 2) = 0; order(5, 0) = -1; order(3, 0) = -1; order(6, 0) = 1; order(6, 1) = 2");
        Runs.run("21: sessions stay and weigh nothing at a site that is off",
                "area(9) = 0; site(0, 9) = 0; site(0, 9) = 1; opens(0, 9, 9) = 1; order(3, 0) = 0; order(3, 1) = 1;",
                "steps(0, 1) = 0; siteOf(0, 4) = 9; order(2, 0) = 1; rooms(0, 8) = 9; order(2, 0) = -1; order(1, 0) = 0");
    }

    private static void worst() {
        Runs.run("22: BAD before NONE",
                "worst(0, 0) = -2; worst(3, 0) = -2; worst(1, -1) = -2; worst(1, 2) = -2; worst(-1, 0) = -2; worst(1, 0) = -1;",
                "worst(2, 1) = -1; area(9) = 0; site(0, 5) = 0; worst(1, 0) = 0; worst(1, 1) = 1; worst(2, 0) = -1;",
                "worst(2, 1) = -1; site(0, 5) = 1; worst(2, 0) = 0; worst(2, 1) = 3; cuts(0) = 2; worst(2, 0) = -1;",
                "worst(1, 1) = 2; told(0) = 5; told(1) = 0");
        Runs.run("22: the greatest sum, of several the smallest set",
                CHAIN, "site(0, 20) = 0; site(1, 40) = 1; site(2, 20) = 2; worst(1, 0) = 20; worst(1, 1) = 2;",
                "worst(2, 0) = 40; worst(2, 1) = 3; rooms(2, 20) = 20; rooms(0, 19) = 20; worst(2, 0) = 41; worst(2, 1) = 6");
        Runs.run("22: overloads that are there count, spare room does not",
                "area(9) = 0; area(9) = 1; area(0) = 2; site(0, 5) = 0; site(1, 2) = 1; site(2, 99) = 2; worst(1, 0) = 11;",
                "worst(1, 1) = 4; worst(2, 0) = 7; worst(2, 1) = 5");
        Runs.run("22: carried sessions at the others count, those at the failed sites do not",
                "area(9) = 0; site(0, 9) = 0; site(0, 9) = 1; opens(0, 9, 9) = 1; worst(1, 0) = 0; worst(1, 1) = 1;",
                "steps(0, 1) = 0; opens(0, 7, 9) = 2; rooms(0, 8) = 9; worst(1, 0) = 1; worst(1, 1) = 2; siteOf(0, 4) = 9;",
                "worst(2, 0) = 0");
        Runs.run("22: sites that are off are neither failed nor counted",
                CHAIN, "site(0, 20) = 0; site(1, 0) = 1; site(2, 20) = 2; cuts(1) = 2; worst(1, 0) = 40; worst(1, 1) = 1;",
                "worst(2, 0) = 0; worst(2, 1) = 5");
    }
}
