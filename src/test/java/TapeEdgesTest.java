/** Terms, part 1, and promises 6 to 8: the tape, its TOKENS, its NUMBERS and its FAULTS. */
public final class TapeEdgesTest {
    private static final Checks c = new Checks();
    private static final Refusals r = new Refusals(c);
    private static final int NOT_THERE = 1, NOT_AS_TOLD = 2, NO_ROOM = 3;
    private static final String LAW = "w0,1;", ONE = "c0,1,1,0;";

    public static void main(String[] args) {
        hundredBytes();
        eachByteEachPlace();
        eachNumber();
        runsOfFigures();
        endings();
        fiveClouds();
        firstTokenLeastFault();
        aFaultLeavesAll();
        latestFault();
        newSky();
        c.end();
    }

    private static void fine(String text, int clouds) {
        SignedClouds x = new SignedClouds();
        c.due("sky of " + text, c.read(x, text), clouds);
        c.due("fault of " + text, x.fault(), 0);
        c.due("tape behind " + text, x.count(7), 0);
        c.due("clouds of " + text, x.count(1), clouds);
    }

    private static void faulty(String text, int place, int number) {
        SignedClouds x = new SignedClouds();
        c.due("sky of " + text, c.read(x, text), -1000100 - place);
        c.due("fault of " + text, x.fault(), number);
        c.due("tape behind " + text, x.count(7), 0);
        c.due("clouds of " + text, x.count(1), 0);
    }

    /** "THE TAPE has at most 100 bytes". */
    private static void hundredBytes() {
        SignedClouds x = new SignedClouds();
        String text = "w00,01;" + "c00,01,01,00;".repeat(5);
        int length = text.length();
        for (int n = 1; n <= length; n++) {
            c.due("feed", x.feed(text.charAt(n - 1)), n);
        }
        for (int n = length + 1; n <= 100; n++) {
            c.due("feed", x.feed('z'), n);
        }
        c.due("the 101st", x.feed('z'), Checks.FULL);
        c.due("count", x.count(7), 100);
        c.due("sky", x.sky(), -1000100 - length);
        c.due("empty then", x.count(7), 0);
        for (int n = 1; n <= 100; n++) {
            c.due("feed anew", x.feed('w'), n);
        }
        c.due("the 101st anew", x.feed('w'), Checks.FULL);
        c.due("sky", x.sky(), -1000101);
        c.due("sky of nothing", x.sky(), -1000100);
        c.due("its fault", x.fault(), NOT_THERE);
        farthestFault();
    }

    /** The longest SKY has 72 bytes: no FAULT is farther on, however many bytes come behind it. */
    private static void farthestFault() {
        String longest = "w00,01;" + "c00,01,01,00;".repeat(5);
        fine(longest, 5);
        faulty(longest + "c", 72, NO_ROOM);
        faulty(longest + "?".repeat(28), 72, NOT_THERE);
        faulty(longest.substring(0, 71), 71, NOT_THERE);
        faulty("w" + "1".repeat(99), 1, NOT_THERE);
    }

    /** "letters a to z (each by itself), NUMBERS (figures, 2 at most), SIGNS , and ; nothing else." */
    private static void eachByteEachPlace() {
        String good = "w2,9;c0,3,20,1;";
        fine(good, 1);
        for (int at = 0; at < good.length(); at++) {
            for (int letter = 0; letter < 256; letter++) {
                String text = good.substring(0, at) + (char) letter + good.substring(at + 1);
                int due = dueAt(at, letter, good.charAt(at));
                if (due == 0) {
                    fine(text, 1);
                } else {
                    faulty(text, due / 10, due % 10);
                }
            }
        }
        for (int letter = 0; letter < 256; letter++) {
            boolean sort = "camfb".indexOf(letter) >= 0;
            faulty(good + (char) letter, sort ? 16 : 15, NOT_THERE);
        }
    }

    /** Ten times the place and the number of the FAULT when a byte stands in w2,9;c0,3,20,1; instead; 0: none. */
    private static int dueAt(int at, int letter, int good) {
        boolean figure = letter >= '0' && letter <= '9';
        if (letter == good || figure && (at == 1 || at == 6 || at == 11 || at == 13)) {
            return 0;
        }
        if (at == 5 && "camfb".indexOf(letter) >= 0) {
            return 0;
        }
        if (!figure) {
            // 20 may become 2, and then the next sign cannot stand there
            return at == 11 && letter == ',' ? 10 * 12 + NOT_THERE : 10 * at + NOT_THERE;
        }
        switch (at) {
            case 2:
                return 10 * 1 + NOT_THERE;
            case 3:
                return letter == '0' ? 10 * 3 + NOT_AS_TOLD : 0;
            case 4:
                return 10 * 3 + NOT_AS_TOLD;
            case 7:
                return 10 * 6 + NOT_THERE;
            case 8:
                return letter == '0' || letter == '9' ? 10 * 8 + NOT_AS_TOLD : 0;
            case 9:
                return 10 * 8 + NOT_THERE;
            case 10:
                return letter == '0' || letter > '6' ? 10 * 10 + NOT_AS_TOLD : 0;
            case 12:
                return 10 * 10 + NOT_THERE;
            case 14:
                return 10 * 13 + NOT_AS_TOLD;
            default:
                return 10 * at + NOT_THERE;
        }
    }

    /** "w WIND , SILK ; (0 to 15; 1 to 20)", "FIELDS 0 to 15; 1 to 8; 1 to 60; 0 to 9". */
    private static void eachNumber() {
        number("w", ",1;" + ONE, 0, 15);
        number("w0,", ";" + ONE, 1, 20);
        number(LAW + "c", ",1,1,0;", 0, 15);
        number(LAW + "c0,", ",1,0;", 1, 8);
        number(LAW + "c0,1,", ",0;", 1, 60);
        number(LAW + "c0,1,1,", ";", 0, 9);
        number(LAW + ONE.repeat(4) + "b", ",1,1,0;", 0, 15);
        number(LAW + ONE.repeat(4) + "b0,1,1,", ";", 0, 9);
    }

    private static void number(String before, String behind, int least, int most) {
        for (int n = 0; n < 100; n++) {
            for (String figures : new String[] {Integer.toString(n), n < 10 ? "0" + n : Integer.toString(n)}) {
                String text = before + figures + behind;
                if (n >= least && n <= most) {
                    fine(text, text.startsWith(LAW + ONE + ONE) ? 5 : 1);
                } else {
                    faulty(text, before.length(), NOT_AS_TOLD);
                }
            }
        }
        faulty(before + behind, before.length(), NOT_THERE);
    }

    /** "(a run of three figures, at its first": three or more, wherever they stand, whatever they tell. */
    private static void runsOfFigures() {
        for (String run : new String[] {"000", "001", "100", "999", "0001", "00000000", "1".repeat(60)}) {
            faulty(run, 0, NOT_THERE);
            faulty("w" + run + ",1;", 1, NOT_THERE);
            faulty("w0" + run + ",1;", 1, NOT_THERE);
            faulty("w0," + run + ";", 3, NOT_THERE);
            faulty(LAW + run, 5, NOT_THERE);
            faulty(LAW + "c" + run, 6, NOT_THERE);
            faulty(LAW + "c0," + run + ",1,0;", 8, NOT_THERE);
            faulty(LAW + "c0,1," + run + ",0;", 10, NOT_THERE);
            faulty(LAW + "c0,1,1," + run + ";", 12, NOT_THERE);
            faulty(LAW + ONE + run, 14, NOT_THERE);
        }
        faulty("w16", 1, NOT_AS_TOLD);
        faulty("w160", 1, NOT_THERE);
    }

    /** "the end: how many bytes there are": of each text that ends too early. */
    private static void endings() {
        String text = "w11,11;c11,1,11,1;m1,1,1,1;";
        for (int length = 0; length <= text.length(); length++) {
            String cut = text.substring(0, length);
            if (length == 18) {
                fine(cut, 1);
            } else if (length == text.length()) {
                fine(cut, 2);
            } else {
                faulty(cut, length, NOT_THERE);
            }
        }
    }

    /** "CLOUDS 0 .. 4, 5 at most"; "3 a cloud more than there is room for (its letter)". */
    private static void fiveClouds() {
        for (int many = 1; many <= 5; many++) {
            fine(LAW + ONE.repeat(many), many);
        }
        faulty(LAW, 5, NOT_THERE);
        faulty(LAW + ONE.repeat(6), 50, NO_ROOM);
        faulty(LAW + ONE.repeat(7), 50, NO_ROOM);
        for (char sort : "camfb".toCharArray()) {
            faulty(LAW + ONE.repeat(5) + sort, 50, NO_ROOM);
            faulty(LAW + ONE.repeat(5) + sort + sort, 50, NO_ROOM);
            faulty(LAW + ONE.repeat(5) + sort + "99", 50, NO_ROOM);
            faulty(LAW + ONE.repeat(4) + sort, 42, NOT_THERE);
        }
        for (char other : "wdz,;0{ C".toCharArray()) {
            faulty(LAW + ONE.repeat(5) + other, 50, NOT_THERE);
        }
        faulty("w15,20;" + "m15,8,60,9;".repeat(5) + "m15,8,60,9;", 62, NO_ROOM);
    }

    /** "the first TOKEN that has one (its first byte), of one TOKEN the least". */
    private static void firstTokenLeastFault() {
        faulty("w16,0;?", 1, NOT_AS_TOLD);
        faulty("w0,0;" + ONE, 3, NOT_AS_TOLD);
        faulty("w0,21?", 3, NOT_AS_TOLD);
        faulty("w16?", 1, NOT_AS_TOLD);
        faulty("w99", 1, NOT_AS_TOLD);
        faulty("99", 0, NOT_THERE);
        faulty("w0 99", 2, NOT_THERE);
        faulty(LAW + "99", 5, NOT_THERE);
        faulty(LAW + "w16,1;", 5, NOT_THERE);
        faulty(LAW + "c16,0,0,10;", 6, NOT_AS_TOLD);
        faulty(LAW + "c0,9,61,10;", 8, NOT_AS_TOLD);
        faulty(LAW + "c0,8,61,10;", 10, NOT_AS_TOLD);
        faulty(LAW + "c0,8,60,10;", 13, NOT_AS_TOLD);
        faulty(LAW + "c0,8,60,10" + ONE, 13, NOT_AS_TOLD);
        faulty(LAW + ONE + "c16,1,1,0;" + "?", 15, NOT_AS_TOLD);
        faulty(LAW + ONE.repeat(4) + "c16,1,1,0;" + ONE, 42, NOT_AS_TOLD);
        faulty("ww0,1;", 1, NOT_THERE);
        faulty(LAW + "cc0,1,1,0;", 6, NOT_THERE);
        faulty(LAW + LAW + ONE, 5, NOT_THERE);
        faulty(LAW + ONE + LAW, 14, NOT_THERE);
    }

    /** Promise 7: "all stays" but the tape, which is "empty then". */
    private static void aFaultLeavesAll() {
        String[] texts = {"", "?", "w", "w16,1;" + ONE, "w5,5;", "w5,5;a1,1,1,1;f2,2,2,20;", LAW + ONE.repeat(5) + "c"};
        for (String text : texts) {
            SignedClouds faulty = c.under("w3,4;c1,2,9,5;f7,3,8,6;");
            SignedClouds spared = c.under("w3,4;c1,2,9,5;f7,3,8,6;");
            for (SignedClouds x : new SignedClouds[] {faulty, spared}) {
                c.tell(x, 2, 1, 0, 1, 2);
                x.image(0);
                x.days(1);
                x.wind(9);
                x.ask(0, 0);
                x.set(3, 0, 0);
            }
            c.due("sky of " + text, c.read(faulty, text) <= -1000100 ? 1 : 0, 1);
            c.due("status behind " + text, faulty.status(), 1);
            r.same("sky of " + text, faulty, spared);
        }
    }

    /** Promise 8: "The number of the latest FAULT; 0 before one." */
    private static void latestFault() {
        SignedClouds x = new SignedClouds();
        c.due("before one", x.fault(), 0);
        c.due("a good one", c.read(x, LAW + ONE), 1);
        c.due("before one", x.fault(), 0);
        c.due("no room", c.read(x, LAW + ONE.repeat(6)), -1000150);
        c.due("3", x.fault(), NO_ROOM);
        c.due("a good one", c.read(x, LAW + ONE), 1);
        c.due("3 is the latest yet", x.fault(), NO_ROOM);
        c.due("a number", c.read(x, "w16"), -1000101);
        c.due("2", x.fault(), NOT_AS_TOLD);
        c.due("nothing", x.sky(), -1000100);
        c.due("1", x.fault(), NOT_THERE);
        c.due("1 again", x.fault(), NOT_THERE);
        c.due("BAD is no FAULT", x.feed(256), Checks.BAD);
        c.due("1 yet", x.fault(), NOT_THERE);
    }

    /** "A SKY that is read stands in place of the one before (none at first): DAY 0, no RAIN fell; no ACT can be undone." */
    private static void newSky() {
        SignedClouds x = c.under("w7,4;a1,2,60,5;f7,3,8,6;m0,1,1,1;c0,1,1,1;b0,1,1,1;");
        x.days(24);
        x.image(0);
        c.due("ACTS", x.count(6), 24);
        c.due("sky", c.read(x, "w1,2;b3,4,5,6;"), 1);
        int[] counts = {0, 1, 1, 0, 1, 0, 0, 0};
        for (int what = 0; what < 8; what++) {
            c.due("count " + what, x.count(what), counts[what]);
        }
        int[] clouds = {3, 4, 5, 6, 8 + 16 + 32 + 64, 0};
        for (int what = 0; what < 6; what++) {
            c.due("cloud " + what, x.cloud(0, what), clouds[what]);
        }
        for (int field = 0; field < 16; field++) {
            c.due("field " + field, x.field(field, 0), 0);
        }
        c.due("undo", x.undo(), Checks.STATE);
        c.due("no second CLOUD", x.cloud(1, 0), Checks.BAD);
        c.due("its SILK", x.silk(0), 7);
        c.due("an image outlives it", x.restore(0), 1);
        c.due("DAY", x.count(3), 24);
        c.due("clouds", x.count(1), 5);
    }
}
