/** The sentences that name a boundary case in promises 19 to 22: plans, orders of withdrawal, joint failures. */
public final class PlanEdgesTest {
    private static final String FIVE =
            "area(5) = 0; site(0, 5) = 0; site(0, 5) = 1; site(0, 5) = 2; site(0, 5) = 3; site(0, 5) = 4;";

    public static void main(String[] args) {
        withoutSites();
        whoCanBeAsked();
        capacities();
        greatestSteps();
        smallestSumAndFirst();
        sitesThatAreOff();
        lays();
        sets();
        indices();
        orders();
        tooFewToFail();
        greatestSums();
        smallestSets();
        Runs.finish();
    }

    private static void withoutSites() {
        Runs.run("19: if there are no sites there is a plan with the sum 0", "plan(-1) = 0; area(99) = 0;",
                "plan(-1) = 0; lays() = 0");
        Runs.run("19: if all sites are off there is a plan with the sum 0", FIVE,
                "cuts(0) = 2; cuts(1) = 2; cuts(2) = 2; cuts(3) = 2; cuts(4) = 2; plan(-1) = 0; plan(0) = 0;",
                "plan(4) = 0; lays() = 0; siteOf(0, 3) = 2; siteOf(4, 2) = 0; told(12) = 5");
        Runs.run("19: a site that went off by its drain has no step", "area(5) = 0; site(0, 9) = 0; steps(0, 4) = 0;",
                "drains(0) = 1; ticks(1) = 0; siteOf(0, 3) = 2; plan(-1) = 0; plan(0) = 0");
    }

    private static void whoCanBeAsked() {
        for (int n = 0; n <= 5; n++) {
            StringBuilder sites = new StringBuilder("area(5) = 0;");
            for (int s = 0; s < n; s++) {
                sites.append("site(0, 9) = ").append(s).append(";plan(").append(s).append(") = 0;");
            }
            Runs.run("19: NONE or a site of " + n, sites.toString(),
                    "plan(-1) = 0;",
                "plan(-2) = -2; plan(" + n + ") = -2; plan(" + (n + 1) + ") = -2; plan(5) = -2; told(0) = 4");
        }
        Runs.run("19: if there is no plan there is none for any site", "area(5) = 0; site(0, 4) = 0; site(0, 9) = 1;",
                "cuts(1) = 2; plan(-1) = -1; plan(0) = -1; plan(1) = -1; plan(2) = -2; plan(-2) = -2; told(0) = 2;",
                "cuts(1) = 0; plan(-1) = 1");
    }

    private static void capacities() {
        Runs.run("19: full is not overloaded", "area(5) = 0; site(0, 5) = 0; plan(-1) = 0; rooms(0, 4) = 5;",
                "plan(-1) = -1; wants(0, 4) = 5; plan(-1) = 0; rooms(0, 0) = 4; plan(-1) = -1; wants(0, 0) = 4;",
                "plan(-1) = 0");
        Runs.run("19: carried sessions fill a site too", "area(1) = 0; site(0, 9) = 0; opens(0, 9, 9) = 1;",
                "opens(0, 1, 9) = 2; site(0, 0) = 1; steps(0, 1) = 0; siteOf(0, 4) = 10; siteOf(0, 5) = 1;",
                "siteOf(1, 5) = 1; plan(-1) = 0; rooms(0, 0) = 9; plan(-1) = -1; rooms(1, 1) = 0;",
                "plan(-1) = -1; rooms(0, 10) = 0; plan(-1) = 0; wants(0, 11) = 1; rooms(1, 11) = 1; plan(-1) = 1");
    }

    private static void greatestSteps() {
        String apart = "area(5) = 0; area(0) = 1; area(0) = 2; line(0, 2, 9) = 0; site(0, 0) = 0; site(1, 5) = 1;";
        Runs.run("19: four steps move an area that is 12 farther, and not one that is 13 farther", apart,
                "line(2, 1, 3) = 0; far(0, 1) = 12; plan(-1) = 4; plan(0) = 4; plan(1) = 0; line(2, 1, 4) = 3;",
                "plan(-1) = -1; plan(0) = -1; lays() = -3; line(2, 1, 3) = 4; lays() = 4; siteOf(0, 2) = 4; of(0, 2) = 1");
        Runs.run("19: three steps move an area that is 9 farther, four one that is 10 farther", apart,
                "line(0, 1, 9) = 0; plan(0) = 3; line(0, 1, 0) = 9; line(1, 2, 1) = 0; plan(0) = 4");
        Runs.run("19: no step moves an area without another site, a deaf or a loyal one", "area(5) = 0; area(0) = 1;",
                "line(0, 1, 1) = 0; site(0, 0) = 0; plan(-1) = -1; site(1, 5) = 1; plan(-1) = 1; mood(0, 1) = 0;",
                "plan(-1) = -1; mood(0, 2) = 1; plan(-1) = -1; mood(0, 0) = 2; plan(-1) = 1; line(0, 1, 0) = 1;",
                "plan(-1) = -1");
        Runs.run("19: a deaf area moves among sites that are equally far", "area(5) = 0; mood(0, 1) = 0; site(0, 0) = 0;",
                "site(0, 5) = 1; plan(-1) = 1; plan(0) = 1; plan(1) = 0");
        Runs.run("19: the greatest sum: four sites at four steps", "area(5) = 0; area(0) = 1;",
                "area(0) = 2; line(0, 2, 9) = 0; line(2, 1, 3) = 0; site(0, 4) = 0; site(0, 4) = 1; site(0, 4) = 2;",
                "site(0, 4) = 3; site(1, 5) = 4; plan(-1) = 16; plan(0) = 4; plan(3) = 4; plan(4) = 0;",
                "lays() = 16; siteOf(3, 2) = 4; siteOf(4, 4) = 5; rooms(4, 4) = 5; plan(-1) = -1; lays() = -3;",
                "siteOf(3, 2) = 4");
    }

    private static void smallestSumAndFirst() {
        // The session weighs at the overloaded site until its area moves there; or the other area moves away from it.
        String either = "area(1) = 0; area(5) = 1; line(0, 1, 2) = 0;";
        Runs.run("19: of two plans with the sum 1 the first site keeps the step 0", either, "site(0, 20) = 0;",
                "site(1, 13) = 1; cuts(0) = 2; opens(0, 9, 30) = 1; cuts(0) = 0; siteOf(1, 4) = 14; siteOf(1, 5) = 1;",
                "plan(-1) = 1; plan(0) = 0; plan(1) = 1; lays() = 1; siteOf(1, 4) = 9; siteOf(0, 4) = 6");
        Runs.run("19: the same with the numbers of the sites exchanged", either, "site(1, 13) = 0; site(0, 20) = 1;",
                "cuts(1) = 2; opens(0, 9, 30) = 1; cuts(1) = 0; siteOf(0, 5) = 1; plan(-1) = 1; plan(0) = 0;",
                "plan(1) = 1; lays() = 1; siteOf(0, 4) = 6");
        Runs.run("19: if only the later one helps, the first site has the step", either, "site(0, 20) = 0; site(1, 8) = 1;",
                "cuts(0) = 2; opens(0, 9, 30) = 1; cuts(0) = 0; plan(-1) = 1; plan(0) = 1; plan(1) = 0; rooms(1, 9) = 8;",
                "plan(0) = 0; plan(1) = 1");
        Runs.run("19: the sum 0 comes first, whatever the steps are", FIVE, "steps(0, 4) = 0; plan(-1) = 0; plan(0) = 0;",
                "lays() = 0; siteOf(0, 2) = 0");
    }

    private static void sitesThatAreOff() {
        Runs.run("19: all but one are off", FIVE, "cuts(0) = 2; cuts(1) = 2; cuts(2) = 2; cuts(3) = 2; plan(-1) = 0;",
                "rooms(4, 4) = 5; plan(-1) = -1; plan(4) = -1; plan(0) = -1; cuts(3) = 0; plan(-1) = 0; rooms(3, 4) = 5;",
                "plan(-1) = -1; rooms(4, 5) = 4; plan(-1) = 1; plan(3) = 1; plan(4) = 0; plan(0) = 0");
        Runs.run("19: a site that is off is not overloaded by its sessions", "area(1) = 0; site(0, 0) = 0;",
                "opens(0, 9, 9) = 1; cuts(0) = 2; siteOf(0, 4) = 9; plan(-1) = 0; site(0, 1) = 1;",
                "plan(-1) = 0; rooms(1, 0) = 1; plan(-1) = -1");
    }

    private static void lays() {
        Runs.run("20: NO, and nothing is laid", "area(5) = 0; site(0, 4) = 0; site(0, 4) = 1; steps(0, 2) = 0;",
                "steps(1, 3) = 0; lays() = -3; siteOf(0, 2) = 2; siteOf(1, 2) = 3; told(1) = 1; told(12) = 5;",
                "rooms(1, 5) = 4; lays() = 1; siteOf(0, 2) = 1; siteOf(1, 2) = 0; lays() = 1; told(1) = 1;",
                "back() = 4; siteOf(0, 2) = 1; back() = 3; siteOf(0, 2) = 2; siteOf(1, 2) = 3");
        Runs.run("20: a draining site keeps its place, one that is off its state", "area(5) = 0; site(0, 4) = 0;",
                "site(0, 9) = 1; site(0, 9) = 2; drains(1) = 1; drains(0) = 2; cuts(2) = 2; lays() = 1; siteOf(0, 2) = 1;",
                "siteOf(0, 3) = 1; siteOf(0, 8) = 1; siteOf(1, 8) = 0; siteOf(2, 2) = 0; siteOf(2, 3) = 2; told(11) = 2");
    }

    private static void sets() {
        for (int n = 0; n <= 5; n++) {
            StringBuilder sites = new StringBuilder("area(5) = 0; order(0, 0) = -2; order(1, 0) = -2;");
            for (int s = 0; s < n; s++) {
                sites.append("site(0, 5) = ").append(s).append(';');
                sites.append("order(").append(1 << s).append(", 0) = ").append(s).append(';');
                sites.append("order(").append((2 << s) - 1).append(", ").append(s).append(") = ").append(s).append(';');
            }
            int next = 1 << n;
            Runs.run("21: sets of " + n + " sites", sites.toString(),
                    "order(" + next + ", 0) = -2; order(" + (2 * next - 1) + ", 0) = -2; order(0, 0) = -2;",
                    "order(-1, 0) = -2; order(-2147483648, 0) = -2; order(-2147483647, 0) = -2; order(2147483647, 0) = -2;",
                    "order(1073741824, 0) = -2; order(" + (1 << 30 | 1) + ", 0) = -2; told(0) = 11; told(1) = 0");
        }
    }

    private static void indices() {
        Runs.run("21: the indices of an order of five", FIVE, "order(31, 0) = 0; order(31, 1) = 1; order(31, 4) = 4;",
                "order(31, 5) = -1; order(31, 31) = -1; order(31, 2147483647) = -1; order(31, -1) = -2;",
                "order(31, -2147483648) = -2; told(0) = 2");
        Runs.run("21: the indices of an order of one", FIVE, "order(16, 0) = 4; order(16, 1) = -1; order(1, 0) = 0;",
                "order(1, 1) = -1; order(8, -1) = -2; told(0) = 1; told(1) = 0; told(2) = 0");
        Runs.run("21: none if there is no such order, at any index", "area(5) = 0; site(0, 5) = 0; site(0, 4) = 1;",
                "order(1, 0) = -1; order(1, 1) = -1; order(1, -1) = -2; order(3, 0) = 1; order(3, 1) = 0; order(3, 2) = -1;",
                "cuts(1) = 2; order(3, 2) = -3; order(2, 0) = -3; order(2, -1) = -2; order(6, 0) = -2;",
                "told(1) = 2; told(0) = 3");
    }

    private static void orders() {
        Runs.run("21: the others up to their capacity", "area(5) = 0; site(0, 5) = 0; site(0, 5) = 1; order(1, 0) = 0;",
                "rooms(1, 4) = 5; order(1, 0) = -1; order(2, 0) = 1; order(3, 0) = 1; rooms(1, 5) = 4; order(3, 0) = 0");
        Runs.run("21: the last one goes, whatever it bears", "area(99) = 0; site(0, 0) = 0; siteOf(0, 5) = 1;",
                "order(1, 0) = 0; order(1, 1) = -1");
        Runs.run("21: one outside of the set is overloaded and stays so", "area(5) = 0; area(5) = 1; site(0, 4) = 0;",
                "site(1, 5) = 1; siteOf(0, 5) = 1; order(2, 0) = -1; order(3, 0) = 0; order(3, 1) = 1; order(1, 0) = 0;",
                "rooms(0, 5) = 4; order(2, 0) = 1");
        Runs.run("21: one that would be overloaded in between", "area(5) = 0; site(0, 5) = 0; site(0, 4) = 1;",
                "site(0, 5) = 2; order(5, 0) = -1; order(5, 1) = -1; order(4, 0) = 2; order(1, 0) = -1; order(3, 0) = 1;",
                "order(7, 0) = 1; order(7, 1) = 0; order(7, 2) = 2");
        Runs.run("21: draining sites can be withdrawn, and stay", "area(5) = 0; site(0, 5) = 0; site(0, 5) = 1;",
                "drains(1) = 1; order(3, 0) = 0; order(2, 0) = 1; siteOf(1, 3) = 1; told(11) = 1; told(12) = 4");
    }

    private static void tooFewToFail() {
        Runs.run("22: fewer than n sites are not off", "worst(1, 0) = -1; worst(1, 1) = -1; worst(2, 0) = -1;",
                "worst(2, 1) = -1; area(9) = 0; site(0, 5) = 0; worst(1, 0) = 0; worst(1, 1) = 1; worst(2, 0) = -1;",
                "worst(2, 1) = -1; site(0, 5) = 1; worst(2, 0) = 0; worst(2, 1) = 3; worst(1, 0) = 4; worst(1, 1) = 1;",
                "drains(0) = 1; worst(2, 1) = 3; cuts(0) = 2; worst(2, 0) = -1; worst(2, 1) = -1; worst(1, 0) = 0;",
                "worst(1, 1) = 2; cuts(1) = 2; worst(1, 0) = -1; worst(1, 1) = -1; told(0) = 0");
        Runs.run("22: n and what", FIVE, "worst(0, 0) = -2; worst(3, 0) = -2; worst(-1, 0) = -2; worst(1, 2) = -2;",
                "worst(2, -1) = -2; worst(2147483647, 0) = -2; worst(-2147483648, 1) = -2; worst(1, 2147483647) = -2;",
                "told(0) = 8");
    }

    private static void greatestSums() {
        Runs.run("22: full is 0, one more is 1", "area(5) = 0; site(0, 9) = 0; site(0, 5) = 1; worst(1, 0) = 0;",
                "rooms(1, 4) = 5; worst(1, 0) = 1; worst(1, 1) = 1; worst(2, 0) = 0");
        Runs.run("22: spare room of one does not lessen the sum of another", "area(5) = 0; area(5) = 1; site(0, 0) = 0;",
                "site(1, 99) = 1; worst(1, 0) = 5; worst(1, 1) = 2");
        StringBuilder most = new StringBuilder();
        for (int a = 0; a < 8; a++) {
            most.append("area(99) = ").append(a).append(';').append(a > 0 ? "line(0, " + a + ", 1) = 0;" : "");
        }
        most.append("site(0, 0) = 0; site(1, 0) = 1;");
        for (int i = 1; i <= 12; i++) {
            most.append("opens(0, 9, 30) = ").append(i).append(';');
        }
        Runs.run("22: the greatest demand, where the sessions are not carried", most.toString(), "worst(1, 0) = 792;",
                "worst(1, 1) = 1;");
        Runs.run("22: the greatest demand, and sessions that are carried", most.toString(), "area(1) = -4; site(0, 0) = 2;",
                "steps(0, 1) = 0; siteOf(0, 4) = 108; worst(1, 0) = 900; worst(1, 1) = 2; worst(2, 0) = 792;",
                "worst(2, 1) = 3");
    }

    private static void smallestSets() {
        Runs.run("22: of several the smallest bit mask", FIVE, "worst(1, 0) = 0; worst(1, 1) = 1; worst(2, 0) = 0;",
                "worst(2, 1) = 3; cuts(0) = 2; worst(1, 1) = 2; worst(2, 1) = 6; cuts(2) = 2; worst(1, 1) = 2;",
                "worst(2, 1) = 10; cuts(3) = 2; worst(2, 1) = 18; cuts(1) = 2; worst(1, 1) = 16; worst(2, 1) = -1");
        Runs.run("22: the last set can be the only worst one", "area(9) = 0; area(9) = 1; area(0) = 2; area(0) = 3;",
                "area(0) = 4; site(2, 0) = 0; site(3, 0) = 1; site(4, 0) = 2; site(0, 9) = 3; site(1, 9) = 4;",
                "line(0, 2, 1) = 0; line(1, 2, 1) = 0; line(0, 1, 1) = 0; worst(1, 0) = 9; worst(1, 1) = 8;",
                "worst(2, 0) = 18; worst(2, 1) = 24; rooms(4, 18) = 9; line(0, 2, 2) = 1; worst(1, 0) = 9;",
                "worst(1, 1) = 16; worst(2, 0) = 18; worst(2, 1) = 24");
    }
}
