/** Networks that several tests begin with. */
final class Networks {
    private Networks() {
    }

    /** Three areas, the last one apart; one site that is on and one that drains; two sessions; a text of one order. */
    static AnySites small() {
        return Runs.run("small",
                "area(10) = 0; area(20) = 1; area(30) = 2; line(0, 1, 2) = 0; site(0, 40) = 0; site(1, 40) = 1;",
                "opens(0, 5, 9) = 1; opens(1, 6, 8) = 2; drains(1) = 1; text(a7;)");
    }

    /**
     * Eight areas, of which only the last has no catch, five sites that are on (0, 1), draining (2, 3) and off (4),
     * twelve sessions and 120 bytes; there are five states, an error of each code, and no plan.
     */
    static AnySites full() {
        return Runs.run("full",
                "area(10) = 0; area(20) = 1; area(30) = 2; area(40) = 3; area(50) = 4; area(60) = 5; area(70) = 6;",
                "area(99) = 7; line(0, 1, 1) = 0; line(1, 2, 2) = 0; line(2, 3, 3) = 0; line(3, 4, 4) = 0;",
                "line(4, 5, 5) = 0; line(5, 6, 6) = 0; site(0, 20) = 0; site(2, 40) = 1; site(4, 60) = 2; site(5, 80) = 3;",
                "site(6, 100) = 4; opens(0, 9, 30) = 1; opens(1, 8, 29) = 2; opens(2, 7, 28) = 3; opens(3, 6, 27) = 4;",
                "opens(4, 5, 26) = 5; opens(5, 4, 25) = 6; opens(6, 3, 24) = 7; opens(0, 2, 23) = 8; opens(1, 1, 22) = 9;",
                "opens(2, 9, 21) = 10; opens(3, 8, 20) = 11; opens(4, 7, 19) = 12; mood(0, 1) = 0; mood(1, 2) = 0;",
                "steps(1, 2) = 0; drains(3) = 1; drains(2) = 2; cuts(4) = 2; area(100) = -2; drains(4) = -3;",
                "area(1) = -4; text(" + "t1;".repeat(40) + ")");
    }
}
