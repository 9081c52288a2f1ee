/**
 * The edges of promises 23 to 25: each byte at each place of a text, numbers of one to three digits and a fourth one,
 * buffers that are empty and full, and each order at its limits.
 */
public final class TextEdgesTest {
    private static final String LETTERS = "alsmpodxt";
    private static final int[] NUMBERS = {1, 3, 2, 2, 2, 3, 1, 1, 1};
    private static final String DIGITS = "0123456789";

    public static void main(String[] args) {
        buffer();
        everyByteBetweenOrders();
        everyByteWithinOrders();
        everyNumber();
        endsTooSoon();
        lastPlaces();
        ordersAtTheirLimits();
        ordersWithoutRoom();
        orderThatFails();
        Runs.finish();
    }

    private static AnySites typed(String text) {
        AnySites x = new AnySites();
        for (int i = 0; i < text.length(); i++) {
            Runs.due("typed", "type(" + (int) text.charAt(i) + ")", x.type(text.charAt(i)), i + 1);
        }
        return x;
    }

    private static void fault(String text, int index) {
        AnySites x = typed(text);
        long before = x.digest();
        Runs.due("25: the fault of '" + text + "'", "reads()", x.reads(), -10 - index);
        Runs.due("25: nothing is done, counted or cleared by '" + text + "'", "digest()", x.digest(), before);
    }

    private static void buffer() {
        for (int c = 0; c <= 127; c++) {
            Runs.run("23: the bytes 0 to 127", "type(" + c + ") = 1; told(3) = 1; told(12) = 0");
        }
        Runs.go(typed(" ".repeat(119)), "23: the last place", "told(3) = 119; type(59) = 120; told(3) = 120; type(59) = -4;",
                "type(0) = -4; told(3) = 120; told(2) = 2; type(128) = -2; told(2) = 2; told(0) = 1; reads() = -129");
        Runs.go(typed("x".repeat(120)), "24: there is room again", "type(1) = -4; clear() = 120; clear() = 0; told(3) = 0;",
                "type(97) = 1; told(3) = 1; reads() = -11; told(2) = 1; clear() = 1");
        Runs.run("24: what was there is gone", "text(a5;a6;); clear() = 6; reads() = -10; type(97) = 1; reads() = -11");
        Runs.run("24: a new text behind a longer one", "text(a5;a6;a7;); text(a8;); reads() = 1; told(4) = 1; of(0, 0) = 8");
        Runs.run("25: a text can be lengthened after it was read, and is read from its beginning",
                "text(a5;); reads() = 1; type(97) = 4; type(54) = 5; reads() = -15; type(59) = 6; reads() = 2;",
                "told(4) = 3; of(1, 0) = 5; of(2, 0) = 6; told(12) = 2");
    }

    /** Before the first order and behind each order a letter or a space can stand, and nothing else. */
    private static void everyByteBetweenOrders() {
        for (String before : new String[] {"", " ", "   ", "a1;", "a1; ", "l0 1 2;  ", "t999;s1 2;"}) {
            everyByteBehind(before, LETTERS + " ");
        }
    }

    private static void everyByteWithinOrders() {
        for (int i = 0; i < LETTERS.length(); i++) {
            StringBuilder text = new StringBuilder().append(LETTERS.charAt(i));
            for (int number = 1; number <= NUMBERS[i]; number++) {
                String end = number == NUMBERS[i] ? ";" : "";
                everyByteBehind(text.toString(), DIGITS + " ");
                everyByteBehind(text + "  ", DIGITS + " ");
                everyByteBehind(text + "0", DIGITS + " " + end);
                everyByteBehind(text + "12", DIGITS + " " + end);
                everyByteBehind(text + "345", " " + end);
                everyByteBehind(text + " 000", " " + end);
                everyByteBehind(text + "6 ", number == NUMBERS[i] ? " ;" : DIGITS + " ");
                everyByteBehind(text + "789  ", number == NUMBERS[i] ? " ;" : DIGITS + " ");
                text.append(number).append(' ');
            }
        }
    }

    /** A byte that can stand there is not the fault: the text is whole with it, or ends too soon behind it. */
    private static void everyByteBehind(String before, String allowed) {
        boolean between = before.isBlank() || before.strip().endsWith(";");
        for (char c = 0; c <= 127; c++) {
            String text = before + c;
            if (allowed.indexOf(c) < 0) {
                fault(text, before.length());
            } else if (c != ';' && !(between && c == ' ' && !before.isBlank())) {
                fault(text, text.length());
            } else {
                long answer = typed(text).reads();
                Runs.holds("25: '" + text + "' has no fault", answer >= 0 || answer <= -1000);
            }
        }
    }

    private static void everyNumber() {
        for (int n = 0; n <= 999; n++) {
            AnySites x = typed("a1;s0 " + n + ";s000 " + String.format("%03d", n) + ";a" + n + ";");
            Runs.due("25: the number " + n, "reads()", x.reads(), n <= 99 ? 4 : -1003);
            Runs.due("25: the number " + n, "told(5)", x.told(5), n <= 99 ? 2 : 0);
            Runs.due("25: the number " + n, "siteOf(0, 1)", x.siteOf(0, 1), n <= 99 ? n : -2);
            Runs.due("25: the number " + n, "siteOf(1, 1)", x.siteOf(1, 1), n <= 99 ? n : -2);
            x = typed("a1;s0 " + n + ";");
            Runs.due("25: the number " + n, "reads()", x.reads(), 2);
            Runs.due("25: the number " + n, "siteOf(0, 1)", x.siteOf(0, 1), n);
        }
        fault("a0000;", 4);
        fault("a0001;", 4);
        fault("a 0001;", 5);
        fault("s1 1000;", 6);
        fault("s1000 1;", 4);
        fault("l1 1000 1;", 6);
        fault("o1 1 1000;", 8);
        fault("t1;t0030;", 7);
    }

    private static void endsTooSoon() {
        for (int spaces = 0; spaces <= 120; spaces++) {
            fault(" ".repeat(spaces), spaces);
        }
        for (int i = 0; i < LETTERS.length(); i++) {
            String whole = LETTERS.charAt(i) + " 12 345 6".substring(0, new int[] {3, 7, 9}[NUMBERS[i] - 1]);
            for (int n = 1; n <= whole.length(); n++) {
                fault(whole.substring(0, n), n);
                fault("x1;" + whole.substring(0, n), n + 3);
            }
        }
    }

    private static void lastPlaces() {
        String orders = "t1;".repeat(39);
        Runs.go(typed(orders + "t1;"), "25: a full buffer", "reads() = 40; told(7) = 40; told(3) = 120; told(12) = 1;",
                "reads() = 40; told(7) = 80; told(12) = 2; back() = 1; told(7) = 40; back() = 0; told(7) = 0;",
                "told(3) = 120");
        Runs.go(typed(orders + "t0;"), "25: the last order fails", "reads() = -1039; told(7) = 0; told(12) = 0;",
                "told(0) = 0");
        Runs.go(typed(orders + "t9 "), "25: the last byte is missing", "reads() = -130; told(7) = 0; told(12) = 0");
        Runs.go(typed(orders + "t12"), "25: the last byte is missing", "reads() = -130");
        Runs.go(typed(orders + "t1t"), "25: the last byte is the fault", "reads() = -129");
        Runs.go(typed(orders + "t1"), "25: one byte before the last place", "reads() = -129; type(59) = 120; reads() = 40");
        Runs.go(typed(orders + "   "), "25: spaces at the end", "reads() = 39; told(7) = 39");
        Runs.go(typed("   " + orders), "25: spaces at the beginning", "reads() = 39; told(7) = 39");
        Runs.go(typed("a 5 ;" + " ".repeat(115)), "25: one order and spaces", "reads() = 1; of(0, 0) = 5");
        Runs.go(typed("t30;".repeat(30)), "25: as much time as a text can tell", "reads() = 30; told(7) = 900;",
                "back() = 0; told(7) = 0");
        Runs.go(typed("q" + "t1;".repeat(39)), "25: the first byte is the fault", "reads() = -10");
    }

    private static final String BASE = "area(1) = 0; area(1) = 1; site(0, 5) = 0;";

    private static void done(String order) {
        Runs.run("25: " + order + " can be carried out", BASE, "text(" + order + "); reads() = 1; told(12) = 4;",
                "told(0) = 0; told(1) = 0; told(2) = 0; back() = 3; told(4) = 2; told(5) = 1; told(6) = 0; told(7) = 0");
    }

    private static void fails(String order) {
        Twins.silent("25: " + order + " cannot be carried out",
                () -> Runs.run("made", BASE, "text(" + order + ")"), "reads() = -1000");
        Twins.silent("25: " + order + " cannot be carried out behind others",
                () -> Runs.run("made", BASE, "text(m1 1;t2;o0 1 9;" + order + "a5;)"), "reads() = -1003");
    }

    private static void ordersAtTheirLimits() {
        for (String order : new String[] {"a0;", "a99;", "l0 1 0;", "l0 1 1;", "l1 0 9;", "s0 0;", "s1 999;", "m0 0;",
            "m1 2;", "p0 0;", "p0 4;", "o0 1 1;", "o0 9 30;", "d0;", "x0;", "t1;", "t30;"}) {
            done(order);
        }
        for (String order : new String[] {"a100;", "a999;", "l0 1 10;", "l0 1 999;", "l0 0 1;", "l1 1 0;", "l0 2 1;",
            "l2 0 1;", "l999 0 1;", "s2 0;", "s999 0;", "m0 3;", "m2 0;", "m0 999;", "p0 5;", "p1 0;", "o0 0 1;", "o0 10 1;",
            "o0 1 0;", "o0 1 31;", "o2 1 1;", "o1 1 1;", "d1;", "d999;", "x1;", "x999;", "t0;", "t31;", "t999;"}) {
            fails(order);
        }
    }

    private static void ordersWithoutRoom() {
        Runs.run("25: the eighth area by a text, and no ninth", "text(a1;a2;a3;a4;a5;a6;a7;a8;); reads() = 8; told(4) = 8;",
                "of(7, 0) = 8; text(a9;); reads() = -1000; told(4) = 8; told(2) = 0; area(9) = -4; told(2) = 1");
        Runs.run("25: the fifth site by a text, and no sixth", "text(a1;s0 1;s0 2;s0 3;s0 4;s0 5;);",
                "reads() = 6; told(5) = 5; text(s0 6;); reads() = -1000; told(5) = 5; told(2) = 0; site(0, 6) = -4");
        String twelve = "area(1) = 0; site(0, 9) = 0; text(" + "o0 1 9;".repeat(12) + "); reads() = 12; told(6) = 12;";
        Runs.run("25: the twelfth session by a text, and no thirteenth", twelve, "text(o0 1 1;); reads() = -1000;",
                "told(6) = 12; told(2) = 0; opens(0, 1, 1) = -4; told(2) = 1; told(12) = 3");
        Runs.run("25: room that a text makes itself", twelve, "text(t9;o0 2 1;); reads() = 2; told(6) = 1;",
                "told(8) = 12; session(0, 2) = 2; back() = 3; told(6) = 12; told(8) = 0");
        Runs.run("25: a draining site by a text, and one that is off", "area(1) = 0; site(0, 9) = 0; text(d0;p0 0;);",
                "reads() = -1001; text(x0;p0 0;); reads() = -1001; text(x0;d0;); reads() = -1001; text(x0;o0 1 1;);",
                "reads() = -1001; text(d0;d0;); reads() = -1001; told(1) = 0; told(0) = 0; siteOf(0, 3) = 0;",
                "text(x0;x0;p0 4;d0;); reads() = 4");
    }

    private static void orderThatFails() {
        Runs.run("25: when its turn comes: what an order before it makes is there", "text(s0 1;a1;); reads() = -1000;",
                "told(4) = 0; text(a1;s0 1;o0 1 1;l0 1 1;a1;); reads() = -1003;",
                "text(a1;a1;l0 1 1;s1 2;o0 1 1;p0 1;m0 2;d0;x0;t1;); reads() = 10");
        Runs.run("25: the first one of several that fail", "text(a1;x0;d0;a100;); reads() = -1001;",
                "told(4) = 0; told(12) = 0");
        Runs.run("25: a fault behind an order that fails comes first", "text(x0;a1;z); reads() = -16; text(x0;a1);",
                "reads() = -15");
        Runs.run("25: the states of before are all kept, and the latest is not the text's",
                "area(1) = 0; area(2) = 1; area(3) = 2; area(4) = 3; area(5) = 4; area(6) = 5; text(a7;a8;a9;);",
                "reads() = -1002; told(12) = 5; told(4) = 6; back() = 4; told(4) = 5; back() = 3; back() = 2;",
                "back() = 1; back() = 0; told(4) = 1; back() = -3; told(1) = 1");
        Runs.run("25: time, breaks, delays and ends of a text that fails are not counted",
                "area(5) = 0; site(0, 5) = 0; site(0, 4) = 1; text(o0 1 9;o0 1 1;x0;t1;x0;d0;t2;x9;); reads() = -1007;",
                "told(6) = 0; told(7) = 0; told(8) = 0; told(9) = 0; told(10) = 0; told(11) = 0; told(12) = 3;",
                "siteOf(0, 3) = 0; text(o0 1 9;o0 1 1;x0;t1;x0;d0;t2;); reads() = 7; told(6) = 1; told(7) = 3; told(8) = 1;",
                "told(9) = 1; told(10) = 2; told(11) = 1; told(12) = 4; back() = 3; told(7) = 0; told(8) = 0;",
                "told(9) = 0; told(10) = 0; told(11) = 0");
    }
}
