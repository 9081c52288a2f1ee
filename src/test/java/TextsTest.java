/** Promises 23 to 25: the text buffer, and the orders of its text. */
public final class TextsTest {
    public static void main(String[] args) {
        type();
        clear();
        wholeTexts();
        faults();
        failingOrders();
        oneAct();
        Runs.finish();
    }

    private static void type() {
        Runs.run("23: bytes from 0 to 127",
                "type(-1) = -2; type(128) = -2; type(0) = 1; type(127) = 2; told(3) = 2; told(0) = 2; told(12) = 0");
        AnySites x = new AnySites();
        for (int i = 1; i <= 120; i++) {
            Runs.due("23: room for 120 bytes", "type(32)", x.type(32), i);
        }
        Runs.go(x, "23: then FULL, but BAD comes first",
                "type(32) = -4; type(128) = -2; type(-1) = -2; told(3) = 120; told(2) = 1; told(0) = 2; reads() = -130;",
                "clear() = 120; type(97) = 1");
    }

    private static void clear() {
        Runs.run("24: how many there were; the buffer is no part of the states",
                "clear() = 0; type(97) = 1; type(49) = 2; type(59) = 3; reads() = 1; told(3) = 3; reads() = 1; told(4) = 2;",
                "back() = 1; told(3) = 3; clear() = 3; told(3) = 0; back() = 0; told(3) = 0; reads() = -10; told(12) = 0");
    }

    private static void wholeTexts() {
        Runs.run("25: every order",
                "text(a10;a20;l0 1 2;s0 25;s1 30;m1 2;p1 4;o1 3 5;d0;x1;t2;); reads() = 11; told(4) = 2; told(5) = 2; told(7) = 2;",
                "far(0, 1) = 2; siteOf(0, 1) = 25; siteOf(1, 1) = 30; of(1, 1) = 2; siteOf(0, 3) = 1; siteOf(1, 3) = 2;",
                "session(0, 0) = 1; session(0, 1) = 0; session(0, 2) = 3; session(0, 3) = 3; told(9) = 1; told(12) = 1");
        Runs.run("25: steps by p", "text(a1;s0 5;p0 4;); reads() = 3; siteOf(0, 2) = 4");
        Runs.run("25: spaces anywhere, and none where none is needed",
                "text(   a   5  ;  s 0   9 ;x0;  ); reads() = 3; siteOf(0, 1) = 9; siteOf(0, 3) = 2");
        Runs.run("25: numbers with zeros before them", "text(a007;a000;a099;s000 009;); reads() = 4; of(0, 0) = 7; siteOf(0, 1) = 9");
        Runs.run("25: the capacity of three digits", "text(a1;s0 999;); reads() = 2; siteOf(0, 1) = 999");
        AnySites x = Runs.run("25: as many orders as the buffer holds", "area(1) = 0; site(0, 5) = 0");
        for (int i = 0; i < 40; i++) {
            x.type('t');
            x.type('1');
            x.type(';');
        }
        Runs.go(x, "25: as many orders as the buffer holds", "told(3) = 120; reads() = 40; told(7) = 40; told(12) = 3");
    }

    private static void faults() {
        fault("", 0);
        fault(" ", 1);
        fault("   ", 3);
        fault("a", 1);
        fault("a ", 2);
        fault("a1", 2);
        fault("a1 ", 3);
        fault("a1;a", 4);
        fault(";", 0);
        fault("a;", 1);
        fault("a1;;", 3);
        fault("a1; ;", 4);
        fault("a1 2;", 3);
        fault("a1234;", 4);
        fault("a 1234;", 5);
        fault("l0 1;", 4);
        fault("l0 1 2 3;", 7);
        fault("l0 1 2345;", 8);
        fault("l012;", 4);
        fault("l0123;", 4);
        fault("s1;", 2);
        fault("s1 2 3;", 5);
        fault("m1;", 2);
        fault("p1;", 2);
        fault("o1 2;", 4);
        fault("d1 2;", 3);
        fault("x1 2;", 3);
        fault("t1 2;", 3);
        fault("A1;", 0);
        fault("b1;", 0);
        fault("1;", 0);
        fault("aa1;", 1);
        fault("a1a2;", 2);
        fault("a-1;", 1);
        fault("a1,2;", 2);
        fault("a1/;", 2);
        fault("a1:;", 2);
        fault("a\t1;", 1);
        fault("\na1;", 0);
        fault("a1;b", 3);
        fault("a1; q", 4);
        fault("a100;d", 6);
        fault("a1;a 12 3;", 8);
        Runs.run("25: nothing is done by a text with a fault, and nothing is counted",
                "text(a1;a2;q); reads() = -16; told(4) = 0; told(12) = 0; told(0) = 0; told(1) = 0; told(2) = 0");
        Runs.run("25: a fault goes before an order that fails", "text(a100;a1); reads() = -17; text(a100;a1;); reads() = -1000");
        Runs.run("25: a fault leaves nothing for the next text",
                "text(l1 2); reads() = -14; text(a12); reads() = -13; text(a3;); reads() = 1; of(0, 0) = 3");
    }

    private static void fault(String text, int index) {
        AnySites x = new AnySites();
        for (int i = 0; i < text.length(); i++) {
            x.type(text.charAt(i));
        }
        Runs.due("25: the fault of '" + text + "'", "reads()", x.reads(), -10 - index);
        Runs.due("25: the fault of '" + text + "'", "told(4)", x.told(4), 0);
    }

    private static void failingOrders() {
        Runs.run("25: the first order that fails, and none before it stays done",
                "area(1) = 0; site(0, 5) = 0; text(a2;l0 1 3;t5;o1 1 9;d0;p0 1;); reads() = -1005; told(4) = 1; told(6) = 0;",
                "told(7) = 0; told(11) = 0; told(12) = 2; told(1) = 0; told(3) = 28; back() = 1; told(5) = 0");
        Runs.run("25: every kind of order can fail",
                "area(1) = 0; site(0, 5) = 0; text(a100;); reads() = -1000; text(l0 1 1;); reads() = -1000;",
                "text(s1 1;); reads() = -1000; text(m0 3;); reads() = -1000; text(p0 5;); reads() = -1000;",
                "text(o0 0 1;); reads() = -1000; text(d1;); reads() = -1000; text(x1;); reads() = -1000;",
                "text(t31;); reads() = -1000; text(t0;); reads() = -1000; text(m0 1;x1;); reads() = -1001;",
                "told(0) = 0; told(12) = 2; of(0, 1) = 0");
        Runs.run("25: FULL and NO fail too",
                "text(a1;a1;a1;a1;a1;a1;a1;a1;a1;); reads() = -1008; told(4) = 0; told(2) = 0; area(1) = 0;",
                "text(o0 1 1;); reads() = -1000; told(1) = 0; text(s0 1;d0;d0;); reads() = -1002; told(5) = 0");
        Runs.run("25: a failure does not push out a state that is kept",
                "area(0) = 0; area(1) = 1; area(2) = 2; area(3) = 3; area(4) = 4; text(a5;d0;); reads() = -1001; told(12) = 5;",
                "told(4) = 5; back() = 4; back() = 3; back() = 2; back() = 1; back() = 0; told(4) = 0");
    }

    private static void oneAct() {
        Runs.run("25: one state for all orders together",
                "area(1) = 0; text(a2;a3;a4;); reads() = 3; told(12) = 2; told(4) = 4; back() = 1; told(4) = 1; reads() = 3;",
                "told(4) = 4");
        Runs.run("25: what ticks count in a text is counted",
                "text(a5;s0 9;o0 1 2;t3;); reads() = 4; told(8) = 1; told(7) = 3; back() = 0; told(8) = 0; told(7) = 0");
    }
}
