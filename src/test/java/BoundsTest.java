/** Promises 2 to 41: each number that is told, at its bounds, one beyond them, at the least and the greatest int. */
public final class BoundsTest {
    private static final Checks c = new Checks();
    private static final Refusals r = new Refusals(c);

    public static void main(String[] args) {
        rows();
        copies();
        told();
        done();
        foretoldOfClouds();
        foretoldOfFields();
        towing();
        who();
        places();
        compared();
        drawn();
        asked();
        c.end();
    }

    /**
     * DAY 1 of five CLOUDS: fogs from 0 on and over 1, WET 28 and 29; a cumulus over 5 and a mackerel from 9 on,
     * WET 29; a bank from 15 on that is GONE. Two ACTS; both images; ROWS 0, 5, 7; a FAULT, a finding, a trace,
     * and seven bytes on the tape.
     */
    static SignedClouds full() {
        SignedClouds x = c.under("w1,9;f0,2,30,0;f1,1,30,1;c4,1,30,2;m8,3,30,3;b15,3,1,4;");
        c.tell(x, 0, 0, 1, 2, 0, 1);
        x.row(5, 2, 0);
        x.row(7, 0, 40);
        x.image(0);
        x.days(1);
        x.image(1);
        x.sign(4, 9);
        x.ask(0, 0);
        c.read(x, "w16");
        for (char letter : "w0,1;m3".toCharArray()) {
            x.feed(letter);
        }
        x.set(3, 0, 0);
        return x;
    }

    /** The number ? of a call goes from least to most; what is beyond these is BAD. */
    private static void goes(String told, int least, long dueAtLeast, int most, long dueAtMost) {
        goes(told, least, dueAtLeast, most, dueAtMost, Checks.BAD, Checks.BAD);
    }

    private static void goes(String told, int least, long dueAtLeast, int most, long dueAtMost, int below, int above) {
        answers(told, least, dueAtLeast);
        answers(told, most, dueAtMost);
        r.refused(BoundsTest::full, with(told, least - 1), below);
        r.refused(BoundsTest::full, with(told, Integer.MIN_VALUE), below);
        r.refused(BoundsTest::full, with(told, most + 1), above);
        r.refused(BoundsTest::full, with(told, Integer.MAX_VALUE), above);
    }

    private static void answers(String told, int number, long due) {
        c.due(with(told, number), Refusals.call(full(), with(told, number)), due);
    }

    private static String with(String told, int number) {
        return told.replace("?", Integer.toString(number));
    }

    /** Promises 2, 3, 5. */
    private static void rows() {
        goes("row ? 0 5", 0, 5, 7, 5);
        goes("row 0 ? 5", 0, 5, 2, 5);
        goes("row 0 0 ?", 0, 0, 40, 40, Checks.SIZE, Checks.BAD);
        goes("set ? 0 1", 0, 1, 7, 1);
        goes("set 0 ? 9", 0, 9, 3, 9, Checks.PLACE, Checks.PLACE);
        goes("set 7 ? 9", 0, 9, 39, 9, Checks.PLACE, Checks.PLACE);
        answers("set 0 0 ?", Integer.MIN_VALUE, 0);
        answers("set 0 0 ?", Integer.MAX_VALUE, -1);
        goes("drop ?", 0, 4, 7, 40);
    }

    /** Promise 4. */
    private static void copies() {
        goes("copy ? 0 7 0 1", 0, 1, 7, 1);
        goes("copy 0 0 ? 0 1", 0, 1, 7, 1);
        goes("copy 0 ? 7 0 1", 0, 1, 3, 1, Checks.PLACE, Checks.PLACE);
        goes("copy 0 ? 7 0 0", 0, 0, 4, 0, Checks.PLACE, Checks.PLACE);
        goes("copy 0 0 7 ? 4", 0, 4, 36, 4, Checks.PLACE, Checks.PLACE);
        goes("copy 0 0 7 ? 0", 0, 0, 40, 0, Checks.PLACE, Checks.PLACE);
        goes("copy 0 0 7 0 ?", 0, 0, 4, 4, Checks.PLACE, Checks.PLACE);
        goes("copy 7 0 0 0 ?", 0, 0, 4, 4, Checks.PLACE, Checks.PLACE);
        goes("copy 7 0 7 0 ?", 0, 0, 40, 40, Checks.PLACE, Checks.PLACE);
        goes("copy 5 0 5 0 ?", 0, 0, 0, 0, Checks.PLACE, Checks.PLACE);
    }

    /** Promise 6. */
    private static void told() {
        goes("feed ?", 0, 8, 255, 8);
    }

    /** Promises 10 to 16. */
    private static void done() {
        goes("days ?", 1, 2 + 1 + 1, 24, 28 + 24 + 24);
        goes("wind ?", 0, 1, 15, 1);
        goes("tow ? 1", 0, 1, 4, Checks.STATE);
        goes("tow 0 ?", 1, 1, 15, 15);
        goes("tow 3 ?", 1, 10, 15, 8);
        goes("silk ?", 0, 37, 4, 9);
        goes("sign ? 3", 0, 0, 4, 9);
        goes("sign 2 ?", 0, 2, 9, 2);
        goes("cloud ? 0", 0, 0, 4, 15);
        goes("cloud 4 ?", 0, 15, 5, 3);
        goes("field ? 0", 0, 1, 15, 0);
        goes("field 1 ?", 0, 2, 1, 3);
    }

    /** Promises 17, 22, 23, 29. */
    private static void foretoldOfClouds() {
        goes("ahead ? 1 0", 0, 0, 4, Checks.NONE);
        goes("ahead 3 ? 0", 0, 9, 60, Checks.NONE);
        goes("ahead 3 28 ?", 0, 5, 1, 3);
        goes("gone ?", 0, 14, 4, 0);
        goes("storm ? 1", 0, 0, 4, Checks.NONE);
        goes("storm 1 ?", 0, 0, 4, Checks.NONE);
        r.refused(BoundsTest::full, "storm 1 1", Checks.BAD);
        goes("from ? 1", 0, 0, 4, Checks.STATE);
        goes("from 2 ?", 0, 5, 60, 9);
    }

    /** Promises 18 to 21, 24, 26. */
    private static void foretoldOfFields() {
        goes("over ? 0", 0, 1, 15, 0);
        goes("over 0 ?", 0, 1, 60, 0);
        goes("falls ? 60", 0, 14 + 2, 15, 2);
        goes("falls 0 ?", 0, 0, 60, 14 + 2);
        goes("dry ?", 0, 65535, 60, 0);
        goes("first ?", 0, 1, 15, 10);
        goes("blue ?", 0, 4, 1, 12);
        goes("harvest ? 1", 0, 14, 15, 0);
        goes("harvest 0 ?", 1, 14, 9, 14);
    }

    /** Promise 25. */
    private static void towing() {
        goes("leastTow ? 1 -1", 0, 0, 65535, Checks.NONE);
        goes("leastTow 4 ? -1", 1, 1, 24, 0);
        goes("leastTow 8 1 ?", -1, 2, 4, 0);
    }

    /** Promise 27. */
    private static void who() {
        goes("who ? 2 0 2 1", 0, 8 + 16 + 32, 4, 62);
        goes("who 4 ? 0 2 1", 0, 0, 15, 62);
        goes("who 0 2 ? 0 1", 0, 2, 7, 56);
        goes("who 0 2 0 ? 1", 0, 2, 3, 2, Checks.PLACE, Checks.PLACE);
        goes("who 4 2 7 ? 12", 0, 62, 28, 62, Checks.PLACE, Checks.PLACE);
        goes("who 4 2 7 0 ?", 1, 62, 12, 62);
    }

    /** Promise 28. */
    private static void places() {
        goes("places ? 2 0 2 1", 0, 65535 - 2 - 4, 4, Checks.STATE);
        goes("places 0 ? 7 0 1", 0, 65535 - 1 - 32768, 15, 65535 - 16384 - 32768);
        goes("places 0 2 ? 0 1", 0, 2 + 4, 7, 65535 - 2 - 4);
        goes("places 0 2 0 ? 1", 0, 2 + 4, 3, 2 + 4, Checks.PLACE, Checks.PLACE);
        goes("places 0 2 7 ? 12", 0, 65535 - 2 - 4, 28, 65535 - 2 - 4, Checks.PLACE, Checks.PLACE);
        goes("places 0 2 7 0 ?", 1, 65535 - 2 - 4, 12, 65535 - 2 - 4);
    }

    /** Promises 30 to 33. */
    private static void compared() {
        goes("alike ?", 0, 0, 1, Checks.NONE);
        goes("likeness ? 1", 0, 100 - 5 - 1, 4, 100 - 20 - 10 - 29);
        goes("likeness 1 ?", 0, 100 - 5 - 1, 4, 100 - 20 - 10 - 29);
        r.refused(BoundsTest::full, "likeness 1 1", Checks.BAD);
        goes("estate ?", 0, 28, 9, 0);
        goes("seen ? 5 0", 0, 1, 5, 0);
        goes("seen 4 ? 0", 0, 0, 10, 1);
        goes("seen 4 5 ?", 0, 1, 1, 16);
    }

    /** Promise 34. */
    private static void drawn() {
        goes("drawn ? 1 1", 0, 15, 60, 0);
        goes("drawn 1 ? 0", 1, 4, 999999, 4);
        goes("drawn 1 1 ?", 0, 4, 1, 15);
    }

    /** Promises 35 to 41. */
    private static void asked() {
        goes("image ?", 0, 1, 1, 1);
        goes("restore ?", 0, 1, 1, 1);
        goes("kind ?", 0, 4, 4, 5);
        goes("as ? 0", 0, 0, 4, 4);
        goes("as 4 ?", 0, 4, 5, 4);
        goes("ask ? 0", 0, 28 - 100, 4, 2 * (0 - 100));
        goes("ask 0 ?", 0, 28 - 100, 1, 0 - (28 - 100));
        goes("trace ?", 0, 13, 1, 10, Checks.NONE, Checks.NONE);
        goes("count ?", 0, 3, 7, 7);
    }
}
