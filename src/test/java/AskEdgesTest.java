/** Terms, part 4, and promises 37 to 41: KINDS, ASKS, THE TRACE; and an object's 512 calls. */
public final class AskEdgesTest {
    private static final Checks c = new Checks();
    private static final String SKY = "w0,1;c0,3,20,1;a0,2,30,1;m0,4,5,1;f0,1,12,1;b0,1,9,1;";

    public static void main(String[] args) {
        kinds();
        askedByExtremes();
        emptyAheadOfIt();
        ofAGoneOne();
        endsOfTheTrace();
        counts();
        calls512();
        c.end();
    }

    /** "0 CLOUD; 1 CUMULUS, a CLOUD; 2 ANVIL, a CUMULUS; 3 MACKEREL, a CUMULUS; 4 FOG, a CLOUD; 5 BANK, a FOG." */
    private static void kinds() {
        String[] sorts = {"c", "a", "m", "f", "b"};
        int[] of = {1 + 2, 1 + 2 + 4, 1 + 2 + 8, 1 + 16, 1 + 16 + 32};
        for (int k = 0; k < 5; k++) {
            SignedClouds x = c.under("w0,1;m0,1,1,0;" + sorts[k] + "0,1,1,0;");
            c.due("kind", x.kind(1), k + 1);
            for (int kind = 0; kind <= 5; kind++) {
                c.due("as " + kind, x.as(1, kind), (of[k] >> kind & 1) != 0 ? 1 : Checks.KIND);
            }
            for (int kind : new int[] {-1, 6, Integer.MIN_VALUE, Integer.MAX_VALUE}) {
                c.due("as " + kind, x.as(1, kind), Checks.BAD);
            }
            x.days(1);
            c.due("GONE, it is what it was", x.kind(1), k + 1);
        }
    }

    /** WET 99 and 1, WIDE 8 and 1, the first and the last number. */
    private static void askedByExtremes() {
        for (int one = 0; one <= 4; one += 4) {
            for (int wide = 1; wide <= 8; wide += 7) {
                for (int silks = 0; silks <= 3; silks += 3) {
                    String others = "m0,1,1,0;".repeat(one);
                    int wet = silks == 0 ? 1 : 99;
                    String cloud = "0," + wide + "," + (silks == 0 ? 1 : 60) + ",0;";
                    asked(others + "c" + cloud, one, silks, wet + one + wide, one + wide);
                    asked(others + "a" + cloud, one, silks, -(wet + 2 * (one + wide)), 2 * (one + wide));
                    asked(others + "m" + cloud, one, silks, wet + one + wide - 1000, one + wide - 1000);
                    asked(others + "f" + cloud, one, silks, wet - 100, one - (wet - 100));
                    asked(others + "b" + cloud, one, silks, 2 * (wet - 100), one - 2 * (wet - 100));
                }
            }
        }
    }

    private static void asked(String clouds, int one, int silks, int size, int mark) {
        SignedClouds x = c.under("w0,13;" + clouds);
        for (int k = 0; k < silks; k++) {
            x.silk(one);
        }
        c.due("SIZE of " + clouds, x.ask(one, 0), size);
        c.due("MARK of " + clouds, x.ask(one, 1), mark);
        c.due("SIZE again", x.ask(one, 0), size);
    }

    private static void traceIs(SignedClouds x, int... due) {
        for (int i = 0; i < 18; i++) {
            c.due("trace " + i, x.trace(i), i < due.length ? due[i] : Checks.NONE);
        }
    }

    /** Promise 39: "THE TRACE is empty ahead of it": a shorter one leaves nothing of a longer one. */
    private static void emptyAheadOfIt() {
        SignedClouds x = c.under(SKY);
        traceIs(x);
        x.ask(1, 0);
        traceIs(x, 12, 11, 10, 24, 21, 20);
        x.ask(0, 1);
        traceIs(x, 21, 20);
        x.ask(4, 1);
        traceIs(x, 23, 20, 14, 13, 10);
        x.ask(3, 0);
        traceIs(x, 13, 10);
        x.ask(5, 0);
        x.ask(0, 2);
        traceIs(x, 13, 10);
        x.days(1);
        x.undo();
        c.read(x, "w0,1;c0,1,1,0;");
        traceIs(x, 13, 10);
        x.ask(0, 0);
        traceIs(x, 11, 10, 21, 20);
    }

    /** A CLOUD that is GONE is asked as any other: WET 0, WIDE as it stays. */
    private static void ofAGoneOne() {
        SignedClouds x = c.under("w0,1;c0,3,3,1;a0,2,6,1;m0,4,1,1;f0,1,1,1;b0,1,1,1;");
        x.days(1);
        c.due("all are GONE", x.count(2), 0);
        int[] sizes = {0 + 3, -(0 + 2 * (1 + 3)), 2 + 4 - 1000, -100, -200};
        int[] marks = {3, 2 * (1 + 3), 2 + 4 - 1000, 3 + 100, 4 + 200};
        for (int one = 0; one < 5; one++) {
            c.due("SIZE of " + one, x.ask(one, 0), sizes[one]);
            c.due("MARK of " + one, x.ask(one, 1), marks[one]);
        }
    }

    /** Promise 40: "Number i of THE TRACE; NONE." */
    private static void endsOfTheTrace() {
        SignedClouds x = c.under(SKY);
        for (int i : new int[] {-1, 0, 1, 15, 16, 17, Integer.MIN_VALUE, Integer.MAX_VALUE}) {
            c.due("ahead of an ask, " + i, x.trace(i), Checks.NONE);
        }
        x.ask(1, 0);
        c.due("the first", x.trace(0), 12);
        c.due("the last", x.trace(5), 20);
        for (int i : new int[] {-1, 6, 7, 15, 16, 17, Integer.MIN_VALUE, Integer.MAX_VALUE}) {
            c.due("beyond, " + i, x.trace(i), Checks.NONE);
        }
    }

    /** Promise 41, each count at its greatest, and what is no count. */
    private static void counts() {
        SignedClouds x = c.under("w15,1;f0,8,60,0;f0,8,60,0;f0,8,60,0;f0,8,60,0;f0,8,60,0;");
        for (int row = 0; row < 8; row++) {
            x.row(row, 0, 40);
        }
        for (int n = 0; n < 100; n++) {
            x.feed(255);
        }
        x.days(1);
        int[] due = {8, 5, 31, 1, 15, 40, 1, 100};
        for (int what = 0; what < 8; what++) {
            c.due("count " + what, x.count(what), due[what]);
        }
        for (int what : new int[] {-1, 8, Integer.MIN_VALUE, Integer.MAX_VALUE}) {
            c.due("count " + what, x.count(what), Checks.BAD);
        }
    }

    /** "An object is used for at most 512 calls": the 512th is answered as any other. */
    private static void calls512() {
        SignedClouds x = new SignedClouds();
        String text = "w0,1;m0,1,60,0;";
        for (int n = 0; n < text.length(); n++) {
            c.due("feed", x.feed(text.charAt(n)), n + 1);
        }
        c.due("sky", x.sky(), 1);
        int calls = text.length() + 1;
        for (int n = 1; calls < 511; n++) {
            c.due("tow", x.tow(0, 1), n % 16);
            calls++;
        }
        c.due("the 512th", x.tow(0, 1), (512 - text.length() - 1) % 16);
    }
}
