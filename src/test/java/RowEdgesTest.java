/** Terms, part 1, and promises 1 to 5, 41, 42: ROWS, their LANES and ITEMS, and what status() tells of them. */
public final class RowEdgesTest {
    private static final Checks c = new Checks();
    private static final int MIN = Integer.MIN_VALUE, MAX = Integer.MAX_VALUE;
    private static final int OTHER = -1;

    public static void main(String[] args) {
        missingAtFirst();
        sizes();
        zeroAtFirst();
        inPlaceOfWhatIsThere();
        lowestBits();
        whatIsKept();
        copiesAsTheyWere();
        copiesOfNone();
        countOfRows();
        statusOfEach();
        statusOfOthers();
        c.end();
    }

    /** An object by which an ITEM can be read: under WIND 15 an anvil stays over FIELD 0, a cumulus leaves it. */
    private static SignedClouds reading() {
        return c.under("w15,1;m0,1,60,0;");
    }

    private static int item(SignedClouds x, int row, int i) {
        switch (x.who(0, 0, row, i, 1)) {
            case 2 + 8 + 32:
                return 0;
            case 16:
                return 1;
            case 4:
                return 2;
            default:
                return OTHER;
        }
    }

    private static void items(String told, SignedClouds x, int row, int... due) {
        for (int i = 0; i < due.length; i++) {
            c.due(told + ", ITEM " + i, item(x, row, i), due[i]);
        }
        c.due(told + ", no more", x.set(row, due.length, 0), Checks.PLACE);
    }

    /** "ROWS 0 .. 7 are missing (at first)". */
    private static void missingAtFirst() {
        for (int row = 0; row < 8; row++) {
            SignedClouds x = new SignedClouds();
            c.due("drop", x.drop(row), Checks.NULL);
            c.due("set", x.set(row, 0, 0), Checks.NULL);
            c.due("copy", x.copy(row, 0, row, 0, 0), Checks.NULL);
            c.due("count", x.count(0), 0);
            c.due("row", x.row(row, 0, 1), 1);
            c.due("set", x.set(row, 0, 1), 1);
            for (int other = 0; other < 8; other++) {
                c.due("others are missing", x.set(other, 0, 1), other == row ? 1 : Checks.NULL);
            }
        }
    }

    /** "have a LANE (0 bytes, 1 shorts, 2 ints) and 0 to 40 ITEMS". */
    private static void sizes() {
        for (int lane = 0; lane <= 2; lane++) {
            for (int n = 0; n <= 40; n++) {
                SignedClouds x = new SignedClouds();
                c.due("row", x.row(lane, lane, n), n);
                c.due("at its end", x.set(lane, n, 1), Checks.PLACE);
                c.due("ahead of its start", x.set(lane, -1, 1), Checks.PLACE);
                c.due("the last", x.set(lane, n - 1, 1), n == 0 ? Checks.PLACE : 1);
                c.due("drop", x.drop(lane), n);
                c.due("drop again", x.drop(lane), Checks.NULL);
            }
        }
    }

    /** "ITEMS, 0 at first", a ROW that was dropped, too. */
    private static void zeroAtFirst() {
        for (int lane = 0; lane <= 2; lane++) {
            SignedClouds x = reading();
            x.row(3, lane, 40);
            items("at first", x, 3, new int[40]);
            for (int i = 0; i < 40; i++) {
                x.set(3, i, 1);
            }
            x.drop(3);
            x.row(3, lane, 40);
            items("dropped and made anew", x, 3, new int[40]);
        }
    }

    /** Promise 2: "in place of what is there". */
    private static void inPlaceOfWhatIsThere() {
        SignedClouds x = reading();
        c.tell(x, 0, 0, 1, 2, 1);
        x.row(0, 0, 3);
        items("as it was", x, 0, 0, 0, 0);
        c.tell(x, 0, 0, 1, 2, 1);
        x.row(0, 0, 1);
        x.row(0, 0, 3);
        items("shorter for a while", x, 0, 0, 0, 0);
        x.row(0, 1, 2);
        c.due("another LANE", x.set(0, 0, 128), 128);
        x.row(0, 0, 2);
        c.due("the LANE before", x.set(0, 0, 128), -128);
        c.due("one ROW", x.count(0), 1);
        c.due("SIZE", x.row(0, 2, -1), Checks.SIZE);
        c.due("its LANE stays", x.set(0, 0, 128), -128);
        c.due("its ITEMS stay", x.drop(0), 2);
    }

    /** Promise 3: "ITEM i becomes v, its lowest bits, as many as the LANE has: what it is then." */
    private static void lowestBits() {
        SignedClouds x = new SignedClouds();
        for (int lane = 0; lane <= 2; lane++) {
            x.row(lane, lane, 1);
        }
        int[] told = {0, 1, -1, 127, 128, 255, 256, 257, -128, -129, -256, 32767, 32768, 65535, 65536, -32768, -32769,
            -65536, MAX, MIN, MAX - 1, MIN + 1, MAX - 127, MIN + 128, MAX - 32767, MIN + 32768};
        for (int v : told) {
            c.due("byte " + v, x.set(0, 0, v), Math.floorMod(v + 128L, 256L) - 128);
            c.due("short " + v, x.set(1, 0, v), Math.floorMod(v + 32768L, 65536L) - 32768);
            c.due("int " + v, x.set(2, 0, v), v);
        }
    }

    /** What an ITEM is then is what it stays: the bits that are lost do not come back. */
    private static void whatIsKept() {
        int[] told = {0, 1, 2, 256, 257, 258, 65536, 65537, 65538, MIN, -255, -65535, MAX};
        int[] ofBytes = {0, 1, 2, 0, 1, 2, 0, 1, 2, 0, 1, 1, OTHER};
        int[] ofShorts = {0, 1, 2, OTHER, OTHER, OTHER, 0, 1, 2, 0, OTHER, 1, OTHER};
        int[] ofInts = {0, 1, 2, OTHER, OTHER, OTHER, OTHER, OTHER, OTHER, OTHER, OTHER, OTHER, OTHER};
        SignedClouds x = reading();
        c.tell(x, 0, 0, told);
        c.tell(x, 1, 1, told);
        c.tell(x, 2, 2, told);
        items("bytes", x, 0, ofBytes);
        items("shorts", x, 1, ofShorts);
        items("ints", x, 2, ofInts);
    }

    /** Promise 4: "n ITEMS of a from i on come to b from j on, as they were ahead". */
    private static void copiesAsTheyWere() {
        SignedClouds x = reading();
        c.tell(x, 0, 0, 0, 1, 2, 1, 0);
        x.row(1, 0, 5);
        c.due("all", x.copy(0, 0, 1, 0, 5), 5);
        items("all of b", x, 1, 0, 1, 2, 1, 0);
        items("a stays", x, 0, 0, 1, 2, 1, 0);
        c.due("two on, within itself", x.copy(1, 0, 1, 2, 3), 3);
        items("on", x, 1, 0, 1, 0, 1, 2);
        c.due("one back, within itself", x.copy(1, 1, 1, 0, 4), 4);
        items("back", x, 1, 1, 0, 1, 2, 2);
        c.due("one on, within itself", x.copy(1, 0, 1, 1, 4), 4);
        items("on", x, 1, 1, 1, 0, 1, 2);
        c.due("where it is", x.copy(1, 1, 1, 1, 3), 3);
        items("where it was", x, 1, 1, 1, 0, 1, 2);
        c.due("the last to the first", x.copy(1, 4, 0, 0, 1), 1);
        items("the first is the last", x, 0, 2, 1, 2, 1, 0);
        c.due("the first to the last", x.copy(1, 0, 0, 4, 1), 1);
        items("the last is the first", x, 0, 2, 1, 2, 1, 1);
        x.row(7, 0, 40);
        x.set(7, 0, 1);
        c.due("39 on", x.copy(7, 0, 7, 1, 39), 39);
        c.due("1 went on", item(x, 7, 1), 1);
        c.due("but once", item(x, 7, 2), 0);
    }

    /** n = 0 is fine up to both ends, and changes nothing; beyond an end it is a PLACE. */
    private static void copiesOfNone() {
        SignedClouds x = reading();
        c.tell(x, 0, 1, 1, 1);
        c.tell(x, 1, 1, 2, 2, 2);
        for (int i = -1; i <= 3; i++) {
            for (int j = -1; j <= 4; j++) {
                boolean fine = i >= 0 && i <= 2 && j >= 0 && j <= 3;
                c.due("copy of none", x.copy(0, i, 1, j, 0), fine ? 0 : Checks.PLACE);
                c.due("its status", x.status(), fine ? 0 : 2);
            }
        }
        items("a", x, 0, 1, 1);
        items("b", x, 1, 2, 2, 2);
        x.row(2, 1, 0);
        c.due("from a ROW of none", x.copy(2, 0, 1, 3, 0), 0);
        c.due("into a ROW of none", x.copy(1, 0, 2, 0, 0), 0);
        c.due("one into a ROW of none", x.copy(1, 0, 2, 0, 1), Checks.PLACE);
    }

    /** Promise 41: "How many: 0 ROWS". */
    private static void countOfRows() {
        SignedClouds x = new SignedClouds();
        for (int row = 0; row < 8; row++) {
            c.due("count", x.count(0), row);
            x.row(row, row % 3, 0);
        }
        c.due("all", x.count(0), 8);
        x.row(3, 0, 40);
        c.due("all yet", x.count(0), 8);
        for (int row = 7; row >= 0; row--) {
            x.drop(row);
            c.due("count", x.count(0), row);
        }
    }

    private static void statusBehind(String told, int due) {
        for (String before : new String[] {"set 6 0 0", "row 6 0 -1", "as 0 5", "row 0 0 4"}) {
            SignedClouds x = c.under("w0,1;c0,1,1,0;f1,1,9,0;");
            c.tell(x, 0, 0, 1, 2, 0, 1);
            x.row(1, 1, 4);
            x.days(1);
            Refusals.call(x, before);
            int stays = x.status();
            Refusals.call(x, told);
            c.due("status behind " + before + ", " + told, x.status(), due < 0 ? stays : due);
            c.due("status again", x.status(), due < 0 ? stays : due);
        }
    }

    /** Promise 42: the number of the FINDING of the latest such call; 0: it had none. */
    private static void statusOfEach() {
        statusBehind("row 2 0 0", 0);
        statusBehind("row 2 0 -1", 4);
        statusBehind("set 0 3 1", 0);
        statusBehind("set 0 4 1", 2);
        statusBehind("set 2 0 1", 1);
        statusBehind("copy 0 0 0 0 0", 0);
        statusBehind("copy 0 0 1 0 0", 5);
        statusBehind("copy 0 0 2 0 0", 1);
        statusBehind("copy 0 0 0 0 5", 2);
        statusBehind("drop 0", 0);
        statusBehind("drop 2", 1);
        statusBehind("who 0 0 0 0 4", 0);
        statusBehind("who 0 0 2 0 4", 1);
        statusBehind("who 0 0 0 1 4", 2);
        statusBehind("places 1 0 0 0 4", 0);
        statusBehind("places 1 0 2 0 4", 1);
        statusBehind("places 1 0 0 1 4", 2);
        statusBehind("as 0 0", 0);
        statusBehind("as 0 4", 3);
    }

    /** Promise 42: what was BAD, STATE, FULL, or has no ROW and is not as(), leaves it. */
    private static void statusOfOthers() {
        String[] calls = {
            "row 8 0 0", "row 0 3 -1", "row 0 0 41", "set 8 0 0", "copy 0 0 8 0 0", "drop -1", "who 2 0 0 0 1",
            "who 0 0 0 0 13", "places 2 0 2 0 1", "places 0 0 0 0 1", "as 2 0", "as 0 6", "feed 0", "feed 256", "sky",
            "fault", "undo", "days 1", "days 0", "wind 1", "wind 16", "tow 0 1", "tow 1 1", "silk 0", "sign 0 1",
            "cloud 0 0", "field 0 0", "ahead 0 0 0", "over 0 0", "falls 0 0", "dry 0", "first 0", "gone 0", "storm 0 1",
            "blue 0", "leastTow 0 1 -1", "harvest 0 1", "from 1 0", "alike 0", "likeness 0 1", "estate 0", "seen 0 0 0",
            "drawn 0 1 0", "image 0", "restore 0", "kind 0", "ask 0 0", "trace 0", "count 0", "count 8", "status"};
        for (String told : calls) {
            statusBehind(told, -1);
        }
        SignedClouds x = new SignedClouds();
        c.due("there was none", x.status(), 0);
        x.set(8, 0, 0);
        c.due("BAD alone", x.status(), 0);
        x.drop(0);
        c.read(x, "w0,1;c0,1,1,0;");
        c.due("a new SKY leaves it", x.status(), 1);
    }
}
