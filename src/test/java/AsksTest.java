/** Promises 37 to 40: kinds, and asks with their trace. */
public final class AsksTest {
    private static final Checks c = new Checks();
    private static final String SKY = "w0,1;c0,3,20,1;a0,2,30,1;m0,4,5,1;f0,1,12,1;b0,1,9,1;";

    public static void main(String[] args) {
        kinds();
        asks();
        refusals();
        c.end();
    }

    private static void kinds() {
        SignedClouds x = c.under(SKY);
        int[] of = {0b000011, 0b000111, 0b001011, 0b010001, 0b110001};
        for (int one = 0; one < 5; one++) {
            c.due("kind", x.kind(one), one + 1);
            for (int kind = 0; kind <= 5; kind++) {
                boolean is = (of[one] >> kind & 1) != 0;
                c.due("as(" + one + "," + kind + ")", x.as(one, kind), is ? one : Checks.KIND);
                c.due("status", x.status(), is ? 0 : 3);
            }
        }
        c.due("as no kind", x.as(0, 6), Checks.BAD);
        c.due("as no kind", x.as(0, -1), Checks.BAD);
        c.due("as no cloud", x.as(5, 0), Checks.BAD);
        c.due("kind of none", x.kind(5), Checks.BAD);
        c.due("kind of none", x.kind(-1), Checks.BAD);
    }

    private static void asked(SignedClouds x, int one, int what, int want, int... trace) {
        String call = "ask(" + one + "," + what + ")";
        c.due(call, x.ask(one, what), want);
        for (int i = 0; i < trace.length; i++) {
            c.due(call + ", trace " + i, x.trace(i), trace[i]);
        }
        c.due(call + ", its end", x.trace(trace.length), Checks.NONE);
    }

    private static void asks() {
        SignedClouds x = c.under(SKY);
        asked(x, 0, 0, 20 + 3, 11, 10, 21, 20);
        asked(x, 0, 1, 3, 21, 20);
        asked(x, 1, 0, -(30 + 2 * (1 + 2)), 12, 11, 10, 24, 21, 20);
        asked(x, 1, 1, 6, 24, 21, 20);
        asked(x, 2, 0, 5 + 2 + 4 - 1000, 11, 10, 22, 21, 20);
        asked(x, 2, 1, 2 + 4 - 1000, 22, 21, 20);
        asked(x, 3, 0, 12 - 100, 13, 10);
        asked(x, 3, 1, 3 - (12 - 100), 23, 20, 13, 10);
        asked(x, 4, 0, 2 * (9 - 100), 14, 13, 10);
        asked(x, 4, 1, 4 - 2 * (9 - 100), 23, 20, 14, 13, 10);
        x.days(2);
        asked(x, 4, 0, 2 * (9 - 2 - 100), 14, 13, 10);
    }

    private static void refusals() {
        SignedClouds x = c.under(SKY);
        c.due("trace before an ask", x.trace(0), Checks.NONE);
        x.ask(3, 0);
        c.due("no such cloud", x.ask(5, 0), Checks.BAD);
        c.due("no such ask", x.ask(0, 2), Checks.BAD);
        c.due("no such ask", x.ask(0, -1), Checks.BAD);
        c.due("the trace stays", x.trace(1), 10);
        c.due("trace(-1)", x.trace(-1), Checks.NONE);
        c.due("trace(16)", x.trace(16), Checks.NONE);
        c.due("trace(MAX)", x.trace(Integer.MAX_VALUE), Checks.NONE);
    }
}
