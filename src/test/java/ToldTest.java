/** Promises 11 to 14, 27 and 28: what can be asked of areas and sites, the counts, and the digest. */
public final class ToldTest {
    private static final String CHAIN = "area(10) = 0; area(20) = 1; area(30) = 2; line(0, 1, 2) = 0; line(1, 2, 3) = 0;";
    private static final String TWO_SITES = CHAIN + "site(0, 30) = 0; site(2, 60) = 1;";

    public static void main(String[] args) {
        far();
        of();
        siteOf();
        seems();
        told();
        digest();
        Runs.finish();
    }

    private static void far() {
        Runs.run("11: the smallest sum of lengths on a way, and none without a way",
                CHAIN, "area(0) = 3; far(0, 2) = 5; far(2, 0) = 5; far(1, 1) = 0; far(3, 3) = 0; far(0, 3) = -1;",
                "far(3, 0) = -1; line(0, 2, 6) = 0; far(0, 2) = 5; line(0, 2, 4) = 6; far(0, 2) = 4;",
                "line(2, 3, 1) = 0; far(0, 3) = 5; line(0, 2, 0) = 4; far(0, 3) = 6; line(0, 1, 0) = 2; far(0, 3) = -1");
        Runs.run("11: a long way around, against the order of the numbers",
                "area(0) = 0; area(0) = 1; area(0) = 2; area(0) = 3; area(0) = 4; area(0) = 5; area(0) = 6; area(0) = 7;",
                "line(0, 7, 9) = 0; line(7, 1, 9) = 0; line(1, 6, 9) = 0; line(6, 2, 9) = 0; line(2, 5, 9) = 0;",
                "line(5, 3, 9) = 0; line(3, 4, 9) = 0; far(0, 4) = 63; far(4, 0) = 63; far(7, 4) = 54; line(0, 2, 9) = 0;",
                "far(0, 4) = 36; far(6, 0) = 18; far(1, 0) = 18; far(1, 4) = 45");
        Runs.run("11: a way through the first area", "area(0) = 0; area(0) = 1; area(0) = 2; line(0, 1, 4) = 0; line(0, 2, 5) = 0;",
                "far(1, 2) = 9; far(2, 1) = 9");
        Runs.run("11: wrong inputs", "far(0, 0) = -2;", CHAIN, "far(0, 3) = -2; far(3, 0) = -2; far(-1, 0) = -2;",
                "far(0, -1) = -2; told(0) = 5; told(12) = 5");
    }

    private static void of() {
        Runs.run("12: every value of an area",
                TWO_SITES, "of(1, 0) = 20; of(1, 1) = 0; of(1, 2) = 0; of(1, 3) = -1; of(1, 4) = 2; of(1, 5) = 0;",
                "opens(1, 1, 9) = 1; opens(2, 1, 9) = 2; opens(1, 1, 9) = 3; of(1, 5) = 2; of(2, 5) = 1; of(0, 5) = 0;",
                "mood(1, 1) = 0; of(1, 1) = 1; ticks(1) = 0; of(0, 3) = 0; of(1, 3) = 0; of(2, 3) = 1; cuts(0) = 2;",
                "of(1, 4) = 1; of(1, 2) = 1; of(1, 3) = 0; drains(1) = 1; of(1, 4) = 1; line(1, 2, 0) = 3; of(1, 4) = 0;",
                "of(1, 2) = -1; of(1, 3) = 0");
        Runs.run("12: of sites that seem equally far the smallest step, then the smallest number",
                CHAIN, "site(2, 9) = 0; site(0, 9) = 1; site(0, 9) = 2; of(0, 2) = 1; line(1, 2, 1) = 3; of(1, 2) = 0;",
                "line(1, 2, 2) = 1; of(1, 2) = 0; line(1, 2, 5) = 2; of(1, 2) = 1; steps(1, 1) = 0; steps(2, 1) = 0;",
                "of(1, 2) = 0; steps(0, 1) = 0; of(1, 2) = 1; line(1, 2, 2) = 5; of(1, 2) = 0; steps(2, 0) = 1; of(1, 2) = 2");
        Runs.run("12: wrong inputs", "of(0, 0) = -2;", TWO_SITES, "of(0, -1) = -2; of(0, 6) = -2; of(-1, 0) = -2;",
                "of(3, 0) = -2; of(3, 6) = -2; told(0) = 6; told(12) = 5");
        Runs.run("12: the catch of a loyal area does not wait for a tick",
                TWO_SITES, "ticks(1) = 0; mood(1, 2) = 0; steps(0, 4) = 0; of(1, 2) = 0; of(0, 2) = 1; of(0, 3) = 0;",
                "ticks(1) = 0; of(0, 3) = 1; of(1, 3) = 0");
    }

    private static void siteOf() {
        Runs.run("13: every value of a site",
                TWO_SITES, "siteOf(0, 0) = 0; siteOf(1, 0) = 2; siteOf(0, 1) = 30; siteOf(1, 1) = 60; siteOf(0, 2) = 0;",
                "siteOf(0, 3) = 0; siteOf(0, 4) = 30; siteOf(1, 4) = 30; siteOf(0, 5) = 0; siteOf(0, 6) = 3;",
                "siteOf(1, 6) = 4; siteOf(0, 7) = 0; siteOf(0, 8) = -1; siteOf(0, 9) = 1; siteOf(1, 9) = 0");
        Runs.run("13: a load that is equal to the capacity is no overload, one more is",
                TWO_SITES, "siteOf(0, 4) = 30; siteOf(0, 5) = 0; wants(0, 11) = 10; siteOf(0, 5) = 1; rooms(0, 31) = 30;",
                "siteOf(0, 5) = 0");
        Runs.run("13: carried sessions weigh at their site, others do not",
                TWO_SITES, "opens(1, 9, 30) = 1; opens(1, 4, 30) = 2; siteOf(0, 4) = 30; siteOf(0, 7) = 2; steps(0, 1) = 0;",
                "siteOf(0, 4) = 23; siteOf(0, 6) = 1; siteOf(1, 4) = 50; siteOf(1, 7) = 0; session(0, 4) = 1; cuts(1) = 2;",
                "siteOf(0, 4) = 60; session(0, 4) = 0");
        Runs.run("13: a site that is off has the load of its sessions, but is neither overloaded nor safe to go",
                TWO_SITES, "rooms(0, 0) = 30; opens(0, 9, 30) = 1; cuts(0) = 2; siteOf(0, 4) = 9; siteOf(0, 5) = 0;",
                "siteOf(0, 6) = 0; siteOf(0, 7) = 1; siteOf(0, 9) = 0; siteOf(1, 4) = 60; siteOf(1, 5) = 0; cuts(0) = 0;",
                "siteOf(0, 4) = 30; siteOf(0, 5) = 1; siteOf(0, 9) = 1");
        Runs.run("13: not safe to go if another one is overloaded, already or by it",
                TWO_SITES, "site(1, 999) = 2; siteOf(0, 9) = 1; siteOf(1, 9) = 1; rooms(1, 29) = 60; siteOf(0, 9) = 0;",
                "siteOf(1, 9) = 1; siteOf(2, 9) = 0; rooms(1, 60) = 29; siteOf(2, 9) = 1; rooms(0, 29) = 30; siteOf(2, 9) = 0;",
                "siteOf(0, 5) = 0; siteOf(1, 9) = 1; wants(0, 30) = 10; siteOf(0, 5) = 1; siteOf(1, 9) = 0; siteOf(0, 9) = 1;",
                "cuts(0) = 2; siteOf(1, 9) = 1");
        Runs.run("13: the sessions of a site that would go weigh nowhere else",
                TWO_SITES, "opens(0, 9, 30) = 1; siteOf(0, 9) = 1; rooms(1, 59) = 60; siteOf(0, 9) = 0");
        Runs.run("13: what was asked before does not matter",
                TWO_SITES, "siteOf(0, 9) = 1; siteOf(0, 6) = 3; siteOf(0, 9) = 1; siteOf(0, 4) = 30; worst(1, 0) = 30;",
                "siteOf(1, 6) = 4; worst(2, 0) = 0; siteOf(1, 4) = 30; order(3, 0) = 0; siteOf(0, 6) = 3; plan(-1) = 0;",
                "siteOf(1, 5) = 0");
        Runs.run("13: the last site alone is safe to go", "area(9) = 0; site(0, 0) = 0; siteOf(0, 5) = 1; siteOf(0, 9) = 1");
        Runs.run("13: wrong inputs", "siteOf(0, 0) = -2;", TWO_SITES, "siteOf(0, -1) = -2; siteOf(0, 10) = -2;",
                "siteOf(-1, 0) = -2; siteOf(2, 0) = -2; siteOf(2, 10) = -2; told(0) = 6");
    }

    private static void seems() {
        Runs.run("14: the distance and three for each step, none without a way or if the site is off",
                TWO_SITES, "area(1) = 3; seems(0, 0) = 0; seems(1, 0) = 2; seems(1, 1) = 3; seems(3, 0) = -1; steps(1, 4) = 0;",
                "seems(1, 1) = 15; seems(0, 1) = 17; mood(0, 1) = 0; seems(0, 1) = 5; mood(0, 2) = 1; seems(0, 1) = 17;",
                "cuts(1) = 2; seems(1, 1) = -1; cuts(1) = 0; seems(1, 1) = 3; drains(1) = 1; seems(1, 1) = 3");
        Runs.run("14: no way stays no way with steps and moods",
                "area(1) = 0; area(1) = 1; site(0, 1) = 0; steps(0, 2) = 0; seems(1, 0) = -1; of(1, 4) = 0; mood(1, 1) = 0;",
                "seems(1, 0) = -1; mood(1, 2) = 1; seems(1, 0) = -1; of(1, 2) = -1; of(1, 3) = -1");
        Runs.run("14: wrong inputs", "seems(0, 0) = -2;", TWO_SITES, "seems(0, 2) = -2; seems(0, -1) = -2; seems(3, 0) = -2;",
                "seems(-1, 0) = -2; told(0) = 5; told(1) = 0; told(2) = 0");
    }

    private static void told() {
        Runs.run("27: the errors, each by its code, questions too",
                "told(-1) = -2; told(13) = -2; told(0) = 2; back() = -3; told(1) = 1; of(0, 0) = -2; order(0, 0) = -2;",
                "plan(0) = -2; told(0) = 5; told(2) = 0; told(1) = 1; told(12) = 0");
        Runs.run("27: what is there",
                TWO_SITES, "opens(0, 1, 2) = 1; opens(0, 1, 9) = 2; opens(2, 1, 9) = 3; told(4) = 3; told(5) = 2; told(6) = 3;",
                "told(7) = 0; ticks(3) = 1; told(7) = 3; told(8) = 1; told(6) = 2; cuts(1) = 2; ticks(1) = 0; told(9) = 1;",
                "told(7) = 4; ends(0) = 1; told(8) = 2; told(10) = 0; type(1) = 1; type(2) = 2; told(3) = 2; drains(0) = 1;",
                "told(11) = 1; told(12) = 5; told(0) = 0; told(1) = 0; told(2) = 0");
        Runs.run("27: NONE and the answers of reads() are no errors",
                TWO_SITES, "session(0, 0) = -1; siteOf(0, 8) = -1; reads() = -10; text(a100;); reads() = -1000;",
                "text(d0;d0;); reads() = -1001; text(z); reads() = -10; told(0) = 0; told(1) = 0; told(2) = 0");
    }

    private static void digest() {
        Runs.run("28: of a new object it is the start and thirteen zeros", "digest() = " + emptyDigest());
        AnySites x = Runs.run("28: it does not change anything", TWO_SITES, "opens(1, 2, 3) = 1; ticks(1) = 0");
        Runs.due("28: the same again", "digest()", x.digest(), x.digest());
        Runs.go(x, "28: nothing is counted by it", "told(0) = 0; told(12) = 5");
        long before = x.digest();
        Runs.go(x, "28: errors change it", "far(9, 9) = -2");
        Runs.holds("28: errors change it", x.digest() != before);
        Runs.due("28: all of its values in their order", "digest()", x.digest(), digestByQuestions(x));
    }

    private static long emptyDigest() {
        long h = 2333;
        for (int i = 0; i < 13; i++) {
            h *= 31;
        }
        return h;
    }

    private static long digestByQuestions(AnySites x) {
        long h = 2333;
        for (int what = 0; what <= 12; what++) {
            h = 31 * h + x.told(what);
        }
        for (int a = 0; a < 3; a++) {
            for (int what = 0; what <= 5; what++) {
                h = 31 * h + x.of(a, what);
            }
        }
        int[] pairs = {0, 1, 2, 0, 2, 0, 1, 2, 3};
        for (int i = 0; i < pairs.length; i += 3) {
            h = 31 * h + pairs[i + 2];
            h = 31 * h + x.far(pairs[i], pairs[i + 1]);
        }
        for (int s = 0; s < 2; s++) {
            for (int what = 0; what <= 9; what++) {
                h = 31 * h + x.siteOf(s, what);
            }
        }
        for (int what = 0; what <= 4; what++) {
            h = 31 * h + x.session(0, what);
        }
        return h;
    }
}
