import java.util.function.Supplier;

/**
 * Terms: which refusal is answered where several fit, and that what is refused, or found, changes nothing but
 * status(). Each sentence of a promise that names a refusal has its row here.
 */
public final class OrderTest {
    private static final Checks c = new Checks();
    private static final Refusals r = new Refusals(c);
    private static final int MIN = Integer.MIN_VALUE, MAX = Integer.MAX_VALUE;

    public static void main(String[] args) {
        rows();
        copies();
        tape();
        noSkyAheadOfBad();
        noSkyNoCloud();
        images();
        undo();
        lastDay();
        gone();
        tooMuchSilk();
        whoAndPlaces();
        kinds();
        asks();
        c.end();
    }

    /** No SKY yet; ROWS 0 of bytes, 1 of shorts; seven bytes on the tape. */
    private static SignedClouds bare() {
        SignedClouds x = new SignedClouds();
        c.tell(x, 0, 0, 1, 2, 0, 1);
        x.row(1, 1, 4);
        for (char letter : "w0,1;m3".toCharArray()) {
            x.feed(letter);
        }
        return x;
    }

    private static void bareRefused(String told, long refusal) {
        r.refused(OrderTest::bare, told, refusal);
    }

    private static void fullRefused(String told, long refusal) {
        r.refused(BoundsTest::full, told, refusal);
    }

    /** Promises 2, 3, 5: BAD, then SIZE; BAD, then NULL, then PLACE. */
    private static void rows() {
        bareRefused("row 8 0 -1", Checks.BAD);
        bareRefused("row -1 0 " + MIN, Checks.BAD);
        bareRefused("row 0 3 -1", Checks.BAD);
        bareRefused("row 0 -1 " + MIN, Checks.BAD);
        bareRefused("row 8 3 41", Checks.BAD);
        bareRefused("row 0 0 -1", Checks.SIZE);
        bareRefused("row 7 2 -1", Checks.SIZE);
        for (int row = 2; row < 8; row++) {
            bareRefused("set " + row + " 0 0", Checks.NULL);
            bareRefused("set " + row + " -1 0", Checks.NULL);
            bareRefused("drop " + row, Checks.NULL);
        }
        bareRefused("set 8 -1 0", Checks.BAD);
        bareRefused("set -1 0 0", Checks.BAD);
        bareRefused("set 0 4 0", Checks.PLACE);
        SignedClouds empty = new SignedClouds();
        empty.row(0, 0, 0);
        c.due("no place in a ROW of none", empty.set(0, 0, 0), Checks.PLACE);
        c.due("a ROW of none is not missing", empty.drop(0), 0);
        c.due("now it is", empty.drop(0), Checks.NULL);
    }

    /** Promise 4: BAD, then NULL, then STORE, then PLACE. */
    private static void copies() {
        bareRefused("copy 8 0 2 0 1", Checks.BAD);
        bareRefused("copy 2 0 8 0 1", Checks.BAD);
        bareRefused("copy -1 0 2 -1 1", Checks.BAD);
        bareRefused("copy 2 0 -1 0 -1", Checks.BAD);
        bareRefused("copy 2 0 3 0 0", Checks.NULL);
        bareRefused("copy 2 -1 2 -1 -1", Checks.NULL);
        bareRefused("copy 0 -1 2 0 1", Checks.NULL);
        bareRefused("copy 2 0 1 5 1", Checks.NULL);
        bareRefused("copy 0 0 1 0 0", Checks.STORE);
        bareRefused("copy 1 0 0 0 4", Checks.STORE);
        bareRefused("copy 0 -1 1 0 1", Checks.STORE);
        bareRefused("copy 0 0 1 5 1", Checks.STORE);
        bareRefused("copy 0 0 1 0 -1", Checks.STORE);
        bareRefused("copy 0 -1 0 0 1", Checks.PLACE);
        bareRefused("copy 0 0 0 -1 1", Checks.PLACE);
        bareRefused("copy 0 0 0 0 -1", Checks.PLACE);
        bareRefused("copy 0 1 0 0 4", Checks.PLACE);
        bareRefused("copy 0 0 0 1 4", Checks.PLACE);
        bareRefused("copy 0 5 0 0 -1", Checks.PLACE);
        bareRefused("copy 0 " + MAX + " 0 0 " + MAX, Checks.PLACE);
        bareRefused("copy 0 0 0 " + MAX + " " + MAX, Checks.PLACE);
        bareRefused("copy 0 " + MIN + " 0 " + MIN + " " + MIN, Checks.PLACE);
        bareRefused("copy 0 1 0 0 " + MAX, Checks.PLACE);
    }

    /** Promise 6: BAD, then FULL (here the tape cannot be made whole, but it is as long as it was). */
    private static void tape() {
        Supplier<SignedClouds> fullTape = () -> {
            SignedClouds x = new SignedClouds();
            for (int n = 1; n <= 100; n++) {
                c.due("feed", x.feed('w'), n);
            }
            return x;
        };
        r.refused(fullTape, "feed 119", Checks.FULL);
        r.refused(fullTape, "feed 0", Checks.FULL);
        r.refused(fullTape, "feed 255", Checks.FULL);
        r.refused(fullTape, "feed 256", Checks.BAD);
        r.refused(fullTape, "feed -1", Checks.BAD);
    }

    /** Promises 10, 11, 16, 18 to 21, 24 to 26, 30, 32 to 34: STATE: no SKY (ahead of BAD). */
    private static void noSkyAheadOfBad() {
        String[] calls = {
            "days 1", "days 0", "days 25", "wind 0", "wind 16", "wind -1", "field 0 0", "field 16 0", "field 0 2",
            "over 0 0", "over 16 0", "over 0 61", "falls 0 0", "falls -1 0", "falls 0 -1", "dry 0", "dry 61",
            "first 0", "first 16", "blue 0", "blue 1", "blue 2", "leastTow 0 1 -1", "leastTow 0 1 0",
            "leastTow 65536 0 -2", "harvest 0 1", "harvest 16 1", "harvest 0 10", "alike 0", "alike 2", "estate 0",
            "estate 10", "seen 0 0 0", "seen 6 0 0", "seen 0 11 0", "seen 0 0 2", "drawn 0 1 0", "drawn 61 1 0",
            "drawn 0 0 0", "drawn 0 1 2"};
        for (String told : calls) {
            bareRefused(told, Checks.STATE);
        }
        for (int number : new int[] {MIN, MAX}) {
            for (String name : new String[] {"days", "wind", "dry", "first", "blue", "alike", "estate"}) {
                bareRefused(name + " " + number, Checks.STATE);
            }
        }
    }

    /** Promises 12 to 15, 17, 22, 23, 27 to 29, 31, 37 to 39: without a SKY there is no such CLOUD. */
    private static void noSkyNoCloud() {
        String[] calls = {
            "tow 0 1", "silk 0", "sign 0 0", "cloud 0 0", "ahead 0 0 0", "gone 0", "storm 0 1", "who 0 0 0 0 1",
            "who 0 0 2 0 1", "who 0 0 0 4 1", "places 0 0 0 0 1", "places 0 0 2 0 1", "places 0 0 0 4 1", "from 0 0",
            "likeness 0 1", "kind 0", "as 0 0", "ask 0 0", "ask 0 1"};
        for (String told : calls) {
            bareRefused(told, Checks.BAD);
        }
        bareRefused("trace 0", Checks.NONE);
        c.due("count of WIND", bare().count(4), 0);
    }

    /** Promises 35, 36: BAD, then STATE. */
    private static void images() {
        bareRefused("image 2", Checks.BAD);
        bareRefused("image -1", Checks.BAD);
        bareRefused("image 0", Checks.STATE);
        bareRefused("image 1", Checks.STATE);
        bareRefused("restore 2", Checks.BAD);
        bareRefused("restore -1", Checks.BAD);
        bareRefused("restore 0", Checks.STATE);
        bareRefused("restore 1", Checks.STATE);
        Supplier<SignedClouds> oneKept = () -> {
            SignedClouds x = c.under("w0,1;f0,1,9,0;");
            x.image(1);
            x.days(1);
            return x;
        };
        r.refused(oneKept, "restore 0", Checks.STATE);
        c.due("the other was kept", oneKept.get().restore(1), 1);
    }

    /** Promise 9: STATE: none. */
    private static void undo() {
        bareRefused("undo", Checks.STATE);
        r.refused(() -> c.under("w0,1;f0,1,9,0;"), "undo", Checks.STATE);
        Supplier<SignedClouds> restored = () -> {
            SignedClouds x = BoundsTest.full();
            x.restore(1);
            return x;
        };
        r.refused(restored, "undo", Checks.STATE);
    }

    /** Promise 10: BAD, then FULL: DAY would be above 999. */
    private static void lastDay() {
        Supplier<SignedClouds> late = () -> {
            SignedClouds x = c.under("w0,1;f0,1,9,0;");
            for (int k = 0; k < 41; k++) {
                x.days(24);
            }
            x.days(13);
            // few ACTS are left, so that all of them can be looked at within 512 calls
            for (int k = 0; k < 22; k++) {
                x.undo();
            }
            return x;
        };
        c.due("DAY", late.get().count(3), 975);
        SignedClouds last = late.get();
        c.due("up to 999", last.days(24), 0);
        c.due("DAY", last.count(3), 999);
        Supplier<SignedClouds> nearly = () -> {
            SignedClouds x = late.get();
            x.days(1);
            return x;
        };
        r.refused(nearly, "days 24", Checks.FULL);
        r.refused(nearly, "days 25", Checks.BAD);
        r.refused(nearly, "days 0", Checks.BAD);
        r.refused(nearly, "days " + MAX, Checks.BAD);
        c.due("DAY 976 and 23", nearly.get().days(23), 0);
        c.due("all is foretold beyond DAY 999", last.dry(60), 65535);
        c.due("DAY", last.count(3), 999);
        c.due("one more", last.days(1), Checks.FULL);
        c.due("other ACTS are done yet", last.wind(3), 0);
    }

    /** Promises 12, 28, 29: STATE: it is GONE, behind BAD (CLOUD 4 is GONE). */
    private static void gone() {
        fullRefused("tow 4 1", Checks.STATE);
        fullRefused("tow 4 15", Checks.STATE);
        fullRefused("tow 4 0", Checks.BAD);
        fullRefused("tow 4 16", Checks.BAD);
        fullRefused("from 4 0", Checks.STATE);
        fullRefused("from 4 60", Checks.STATE);
        fullRefused("from 4 61", Checks.BAD);
        fullRefused("from 4 -1", Checks.BAD);
        fullRefused("places 4 0 0 0 1", Checks.STATE);
        fullRefused("places 4 0 1 0 1", Checks.NULL);
        fullRefused("places 4 0 0 0 5", Checks.PLACE);
        fullRefused("places 4 0 0 0 0", Checks.BAD);
        c.due("a GONE one is restored", BoundsTest.full().silk(4), 9);
        c.due("a GONE one is signed", BoundsTest.full().sign(4, 0), 9);
        c.due("a GONE one is asked", BoundsTest.full().ask(4, 0), -200);
        c.due("a GONE one is compared", BoundsTest.full().likeness(3, 4), 100 - 20 - 29);
        c.due("a GONE one is of a KIND", BoundsTest.full().as(4, 4), 4);
    }

    /** Promise 13: FULL: it would be above 99. */
    private static void tooMuchSilk() {
        Supplier<SignedClouds> wet91 = () -> {
            SignedClouds x = c.under("w0,9;f0,1,55,0;f0,1,54,0;");
            for (int k = 0; k < 4; k++) {
                x.silk(0);
                x.silk(1);
            }
            return x;
        };
        c.due("91", wet91.get().cloud(0, 2), 91);
        r.refused(wet91, "silk 0", Checks.FULL);
        c.due("90 and 9", wet91.get().silk(1), 99);
        r.refused(wet91, "silk 2", Checks.BAD);
    }

    /** Promises 27, 28: BAD: CLOUD, FIELD, ROW, n; NULL; PLACE. */
    private static void whoAndPlaces() {
        for (String name : new String[] {"who", "places"}) {
            fullRefused(name + " 5 0 1 0 1", Checks.BAD);
            fullRefused(name + " 0 16 1 0 1", Checks.BAD);
            fullRefused(name + " 0 0 8 -1 1", Checks.BAD);
            fullRefused(name + " 0 0 1 0 13", Checks.BAD);
            fullRefused(name + " 0 0 0 0 0", Checks.BAD);
            fullRefused(name + " 0 0 0 -1 -1", Checks.BAD);
            fullRefused(name + " 0 0 1 0 12", Checks.NULL);
            fullRefused(name + " 0 0 1 -1 1", Checks.NULL);
            fullRefused(name + " 0 0 0 4 1", Checks.PLACE);
            fullRefused(name + " 0 0 0 -1 1", Checks.PLACE);
            fullRefused(name + " 0 0 0 1 4", Checks.PLACE);
            fullRefused(name + " 0 0 0 " + MAX + " 12", Checks.PLACE);
            fullRefused(name + " 0 0 0 " + (MAX - 11) + " 12", Checks.PLACE);
            fullRefused(name + " 0 0 5 0 1", Checks.PLACE);
        }
    }

    /** Promise 38: BAD, then KIND. */
    private static void kinds() {
        fullRefused("as 0 5", Checks.KIND);
        fullRefused("as 3 2", Checks.KIND);
        fullRefused("as 4 1", Checks.KIND);
        fullRefused("as 0 6", Checks.BAD);
        fullRefused("as 5 5", Checks.BAD);
        fullRefused("as 5 6", Checks.BAD);
    }

    /** Promises 39, 40: a refused ask leaves THE TRACE as it was. */
    private static void asks() {
        fullRefused("ask 5 0", Checks.BAD);
        fullRefused("ask 0 2", Checks.BAD);
        fullRefused("ask -1 -1", Checks.BAD);
    }
}
