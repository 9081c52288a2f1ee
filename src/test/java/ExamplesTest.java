/** The five examples of the document, call by call. */
public final class ExamplesTest {
    public static void main(String[] args) {
        Runs.run("example 1, two sites, steps, and a session",
                "area(10) = 0; area(20) = 1; line(0, 1, 2) = 0; site(0, 25) = 0; site(1, 25) = 1;",
                "of(1, 2) = 1; steps(1, 1) = 0; of(1, 2) = 0; siteOf(0, 5) = 1; plan(-1) = 0; lays() = 0;",
                "opens(1, 3, 5) = 1; mood(1, 2) = 0; cuts(1) = 2; siteOf(0, 4) = 30; ticks(1) = 0");
        Runs.run("example 2, orders from a text",
                "type(97) = 1; type(32) = 2; type(53) = 3; type(59) = 4; type(115) = 5; type(48) = 6; type(32) = 7;",
                "type(57) = 8; type(59) = 9; type(120) = 10; type(48) = 11; type(59) = 12; reads() = 3; of(0, 2) = -1;",
                "back() = 0; told(4) = 0");
        Runs.run("example 3, orders that cannot be carried out",
                "type(97) = 1; type(55) = 2; type(59) = 3; type(100) = 4; type(48) = 5; type(59) = 6; reads() = -1001;",
                "told(4) = 0; clear() = 6; type(116) = 1; type(49) = 2; type(50) = 3; type(51) = 4; type(52) = 5;",
                "reads() = -14; digest() = 2589944522299777950");
        Runs.run("example 4, draining, and a joint failure",
                "area(9) = 0; site(0, 5) = 0; site(0, 9) = 1; drains(0) = 1; drains(0) = -3; ticks(1) = 0;",
                "siteOf(0, 3) = 1; siteOf(0, 2) = 1; siteOf(1, 9) = 0; worst(1, 0) = 4; worst(2, 1) = 3;",
                "order(3, 0) = 0; order(4, 0) = -2; seems(0, 0) = 3; told(1) = 1; told(13) = -2");
        Runs.run("example 5, errors",
                "plan(-1) = 0; lays() = 0; reads() = -10; back() = 0; back() = -3; back() = -3; worst(1, 0) = -1;",
                "area(100) = -2; line(0, 0, 1) = -2; session(0, 0) = -1; session(-1, 0) = -2; ends(0) = -2;",
                "opens(0, 1, 1) = -2; far(0, 0) = -2; told(0) = 6; told(12) = 0");
        Runs.finish();
    }
}
