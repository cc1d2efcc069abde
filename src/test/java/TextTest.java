/** Promises 1 and 6 to 8: a new object, the tape, the texts and their faults. */
public final class TextTest {
    private static final Checks c = new Checks();

    public static void main(String[] args) {
        newObject();
        tape();
        skies();
        faults();
        faultsChangeNothing();
        c.end();
    }

    private static void newObject() {
        SignedClouds x = new SignedClouds();
        for (int what = 0; what < 8; what++) {
            c.due("count at first", x.count(what), 0);
        }
        c.due("fault at first", x.fault(), 0);
        c.due("status at first", x.status(), 0);
        c.due("trace at first", x.trace(0), Checks.NONE);
        c.due("field without a sky", x.field(0, 0), Checks.STATE);
        c.due("kind without a sky", x.kind(0), Checks.BAD);
        c.due("undo without a sky", x.undo(), Checks.STATE);
    }

    private static void tape() {
        SignedClouds x = new SignedClouds();
        c.due("feed(-1)", x.feed(-1), Checks.BAD);
        c.due("feed(256)", x.feed(256), Checks.BAD);
        c.due("feed(0)", x.feed(0), 1);
        c.due("feed(255)", x.feed(255), 2);
        for (int n = 3; n <= 100; n++) {
            c.due("feed", x.feed('w'), n);
        }
        c.due("the 101st", x.feed('w'), Checks.FULL);
        c.due("BAD ahead of FULL", x.feed(256), Checks.BAD);
        c.due("count(7)", x.count(7), 100);
        c.due("sky", x.sky(), -1000100);
        c.due("empty then", x.count(7), 0);
        c.due("feed", x.feed('w'), 1);
    }

    private static void skies() {
        SignedClouds x = new SignedClouds();
        c.due("leading zeros", c.read(x, "w00,01;c09,08,01,00;"), 1);
        c.due("place", x.cloud(0, 0), 9);
        c.due("wide", x.cloud(0, 1), 8);
        c.due("wet", x.cloud(0, 2), 1);
        c.due("hand", x.cloud(0, 3), 0);
        c.due("the greatest", c.read(x, "w15,20;c15,8,60,9;a15,8,60,9;m15,8,60,9;f15,8,60,9;b15,8,60,9;"), 5);
        for (int one = 0; one < 5; one++) {
            c.due("kind", x.kind(one), one + 1);
            c.due("wet", x.cloud(one, 2), 60);
        }
        c.due("wind", x.count(4), 15);
        c.due("DAY goes on", x.days(2) >= 0 ? 1 : 0, 1);
        c.due("a new sky", c.read(x, "w3,4;f1,1,60,0;"), 1);
        c.due("DAY 0", x.count(3), 0);
        c.due("no RAIN", x.count(5), 0);
        c.due("no RAIN", x.field(1, 0), 0);
        c.due("no ACT", x.count(6), 0);
        c.due("no undo", x.undo(), Checks.STATE);
        c.due("no cloud 1", x.kind(1), Checks.BAD);
        c.due("no fault yet", x.fault(), 0);
    }

    private static void faulty(String text, int place, int number) {
        SignedClouds x = new SignedClouds();
        c.due("sky of " + text, c.read(x, text), -1000100 - place);
        c.due("fault of " + text, x.fault(), number);
        c.due("tape of " + text, x.count(7), 0);
        c.due("clouds of " + text, x.count(1), 0);
    }

    private static void faults() {
        String law = "w0,1;";
        String one = "c0,1,1,0;";
        String five = one + one + one + one + one;
        faulty("", 0, 1);
        faulty("c0,1,1,0;", 0, 1);
        faulty("W0,1;", 0, 1);
        faulty(" w0,1;", 0, 1);
        faulty("w", 1, 1);
        faulty("w,", 1, 1);
        faulty("w-1,1;", 1, 1);
        faulty("w16,1;", 1, 2);
        faulty("w99,1;", 1, 2);
        faulty("w000,1;", 1, 1);
        faulty("w1234,1;", 1, 1);
        faulty("w16x", 1, 2);
        faulty("w1;1;", 2, 1);
        faulty("w1 ,1;", 2, 1);
        faulty("w0,0;", 3, 2);
        faulty("w0,21;", 3, 2);
        faulty("w0,1", 4, 1);
        faulty("w0,1,", 4, 1);
        faulty(law, 5, 1);
        faulty(law + ";", 5, 1);
        faulty(law + "w0,1;", 5, 1);
        faulty(law + "d0,1,1,0;", 5, 1);
        faulty(law + "0,1,1,0;", 5, 1);
        faulty(law + "c", 6, 1);
        faulty(law + "c16,1,1,0;", 6, 2);
        faulty(law + "cc", 6, 1);
        faulty(law + "c0,0,1,0;", 8, 2);
        faulty(law + "c0,9,1,0;", 8, 2);
        faulty(law + "c0,1,0,0;", 10, 2);
        faulty(law + "c0,1,61,0;", 10, 2);
        faulty(law + "c0,1,100,0;", 10, 1);
        faulty(law + "c0,1,1,10;", 12, 2);
        faulty(law + "c0,1,1,0", 13, 1);
        faulty(law + "c0,1,1,0,", 13, 1);
        faulty(law + one + "x", 14, 1);
        faulty(law + one + "7", 14, 1);
        faulty(law + five + "c", 50, 3);
        faulty(law + five + "b0,1,1,0;", 50, 3);
        faulty(law + five + "w", 50, 1);
        faulty(law + five + ";", 50, 1);
        faulty(law + five + "\u00e9", 50, 1);
    }

    private static void faultsChangeNothing() {
        SignedClouds x = c.under("w2,3;c1,2,9,4;");
        x.days(1);
        int fell = x.count(5);
        c.due("a fault", c.read(x, "w5,9;a0,0,1,1;"), -1000107 - 1);
        c.due("fault", x.fault(), 2);
        c.due("the sky stays", x.kind(0), 1);
        c.due("its wind", x.count(4), 2);
        c.due("its DAY", x.count(3), 1);
        c.due("its RAIN", x.count(5), fell);
        c.due("its ACTS", x.count(6), 1);
        c.due("a sky", c.read(x, "w5,9;a0,1,1,1;"), 1);
        c.due("the latest fault stays told", x.fault(), 2);
        c.due("another fault", c.read(x, "q"), -1000100);
        c.due("its number", x.fault(), 1);
    }
}
