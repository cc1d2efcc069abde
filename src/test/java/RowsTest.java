/** Promises 2 to 5 and 42: rows and findings. */
public final class RowsTest {
    private static final Checks c = new Checks();

    public static void main(String[] args) {
        making();
        setting();
        copying();
        dropping();
        status();
        c.end();
    }

    private static void making() {
        SignedClouds x = new SignedClouds();
        c.due("row(0,0,0)", x.row(0, 0, 0), 0);
        c.due("row(7,2,40)", x.row(7, 2, 40), 40);
        c.due("count(0)", x.count(0), 2);
        c.due("row(-1,0,1)", x.row(-1, 0, 1), Checks.BAD);
        c.due("row(8,0,1)", x.row(8, 0, 1), Checks.BAD);
        c.due("row(0,-1,1)", x.row(0, -1, 1), Checks.BAD);
        c.due("row(0,3,1)", x.row(0, 3, 1), Checks.BAD);
        c.due("row(0,0,41)", x.row(0, 0, 41), Checks.BAD);
        c.due("row(0,0,-1)", x.row(0, 0, -1), Checks.SIZE);
        c.due("row(0,0,MIN)", x.row(0, 0, Integer.MIN_VALUE), Checks.SIZE);
        c.due("BAD ahead of SIZE", x.row(8, 0, -1), Checks.BAD);
        c.due("BAD ahead of SIZE", x.row(0, 3, -1), Checks.BAD);
        c.due("set(7,39,5)", x.set(7, 39, 5), 5);
        c.due("a SIZE changes nothing", x.row(7, 0, -1), Checks.SIZE);
        c.due("it has 40 yet", x.set(7, 39, 70000), 70000);
        c.due("row anew", x.row(7, 2, 3), 3);
        c.due("shorter now", x.set(7, 3, 1), Checks.PLACE);
        c.due("row anew", x.row(7, 2, 40), 40);
        c.due("row for the copy", x.row(6, 2, 40), 40);
        c.due("copy", x.copy(7, 0, 6, 0, 40), 40);
        c.due("drop", x.drop(7), 40);
        SignedClouds y = c.under("w0,1;m0,1,60,0;");
        c.tell(y, 0, 0, 9, 9);
        y.row(0, 0, 2);
        c.due("ITEMS are 0 anew: an anvil or a mackerel", y.who(0, 0, 0, 0, 2), 4 + 8);
    }

    private static void setting() {
        SignedClouds x = new SignedClouds();
        x.row(0, 0, 2);
        x.row(1, 1, 2);
        x.row(2, 2, 2);
        c.due("byte 127", x.set(0, 0, 127), 127);
        c.due("byte 128", x.set(0, 0, 128), -128);
        c.due("byte 511", x.set(0, 1, 511), -1);
        c.due("byte 256", x.set(0, 1, 256), 0);
        c.due("short 32768", x.set(1, 0, 32768), -32768);
        c.due("short 65537", x.set(1, 1, 65537), 1);
        c.due("int", x.set(2, 0, Integer.MIN_VALUE), Integer.MIN_VALUE);
        c.due("int", x.set(2, 1, 123456789), 123456789);
        c.due("set(8)", x.set(8, 0, 0), Checks.BAD);
        c.due("set(-1)", x.set(-1, 0, 0), Checks.BAD);
        c.due("missing", x.set(3, 0, 0), Checks.NULL);
        c.due("missing, ahead of PLACE", x.set(3, -1, 0), Checks.NULL);
        c.due("place -1", x.set(0, -1, 0), Checks.PLACE);
        c.due("place 2", x.set(0, 2, 0), Checks.PLACE);
        c.due("place MAX", x.set(0, Integer.MAX_VALUE, 0), Checks.PLACE);
    }

    private static void copying() {
        SignedClouds x = c.under("w0,1;f0,1,60,0;");
        c.tell(x, 0, 0, 1, 2, 3, 4, 5);
        x.row(1, 0, 5);
        x.row(2, 1, 5);
        c.due("copy", x.copy(0, 1, 1, 0, 3), 3);
        c.due("copy of none at the end", x.copy(0, 5, 1, 5, 0), 0);
        c.due("beyond a", x.copy(0, 3, 1, 0, 3), Checks.PLACE);
        c.due("beyond b", x.copy(0, 0, 1, 3, 3), Checks.PLACE);
        c.due("i below 0", x.copy(0, -1, 1, 0, 1), Checks.PLACE);
        c.due("j below 0", x.copy(0, 0, 1, -1, 1), Checks.PLACE);
        c.due("n below 0", x.copy(0, 1, 1, 1, -1), Checks.PLACE);
        c.due("far beyond", x.copy(0, Integer.MAX_VALUE, 1, 0, Integer.MAX_VALUE), Checks.PLACE);
        c.due("i 6", x.copy(0, 6, 1, 0, 0), Checks.PLACE);
        c.due("two lanes", x.copy(0, 0, 2, 0, 1), Checks.STORE);
        c.due("two lanes, none", x.copy(0, 0, 2, 0, 0), Checks.STORE);
        c.due("STORE ahead of PLACE", x.copy(0, -1, 2, 0, 1), Checks.STORE);
        c.due("a missing", x.copy(3, 0, 0, 0, 1), Checks.NULL);
        c.due("b missing", x.copy(0, 0, 3, 0, 1), Checks.NULL);
        c.due("NULL ahead of PLACE", x.copy(0, -9, 3, 0, 1), Checks.NULL);
        c.due("no a", x.copy(8, 0, 0, 0, 1), Checks.BAD);
        c.due("no b", x.copy(0, 0, -1, 0, 1), Checks.BAD);
        c.due("BAD ahead of NULL", x.copy(3, 0, 8, 0, 1), Checks.BAD);
        overlapping();
    }

    /** What a ROW holds is seen by who(): a fog of WIDE 1 rains 1 a DAY on its own FIELD. */
    private static void overlapping() {
        SignedClouds x = c.under("w0,1;f0,1,60,0;");
        c.tell(x, 0, 2, 1, 1, 0, 0, 0, 0);
        c.due("forward over itself", x.copy(0, 0, 0, 1, 4), 4);
        c.due("1 1 1", x.who(0, 0, 0, 0, 3), 16 + 2);
        c.due("0 0 0", x.who(0, 0, 0, 3, 3), 4 + 8);
        c.tell(x, 0, 2, 0, 0, 0, 1, 1, 1);
        c.due("backward over itself", x.copy(0, 2, 0, 0, 4), 4);
        c.due("0 1 1 1 1 1: from 1 on", x.who(0, 0, 0, 1, 5), 16 + 2);
    }

    private static void dropping() {
        SignedClouds x = new SignedClouds();
        x.row(4, 1, 17);
        c.due("count(0)", x.count(0), 1);
        c.due("drop", x.drop(4), 17);
        c.due("count(0)", x.count(0), 0);
        c.due("drop again", x.drop(4), Checks.NULL);
        c.due("drop(8)", x.drop(8), Checks.BAD);
        c.due("drop(-1)", x.drop(-1), Checks.BAD);
        c.due("set behind it", x.set(4, 0, 0), Checks.NULL);
    }

    private static void status() {
        SignedClouds x = c.under("w0,1;c0,1,1,0;f1,1,9,0;");
        c.due("at first", x.status(), 0);
        x.set(0, 0, 0);
        c.due("NULL", x.status(), 1);
        x.set(9, 0, 0);
        c.due("BAD leaves it", x.status(), 1);
        x.row(0, 0, 2);
        c.due("none", x.status(), 0);
        x.set(0, 2, 0);
        c.due("PLACE", x.status(), 2);
        x.count(0);
        x.feed(300);
        x.ahead(0, 0, 0);
        c.due("others leave it", x.status(), 2);
        x.as(0, 4);
        c.due("KIND", x.status(), 3);
        x.as(0, 6);
        c.due("BAD leaves it", x.status(), 3);
        x.row(0, 0, -1);
        c.due("SIZE", x.status(), 4);
        x.row(1, 1, 2);
        x.copy(0, 0, 1, 0, 1);
        c.due("STORE", x.status(), 5);
        x.as(0, 1);
        c.due("as() that is so", x.status(), 0);
        x.who(0, 0, 5, 0, 1);
        c.due("who() of a missing ROW", x.status(), 1);
        x.who(0, 0, 0, 0, 2);
        c.due("who()", x.status(), 0);
        x.places(0, 0, 0, 1, 2);
        c.due("places() beyond the end", x.status(), 2);
        x.days(1);
        c.due("places() of a GONE one", x.places(0, 0, 0, 0, 1), Checks.STATE);
        c.due("STATE leaves it", x.status(), 2);
        x.places(1, 0, 0, 0, 1);
        c.due("places()", x.status(), 0);
        x.drop(6);
        c.due("drop() of a missing ROW", x.status(), 1);
        x.set(0, 0, 1);
        c.due("set()", x.status(), 0);
        x.drop(6);
        x.copy(0, 0, 0, 1, 1);
        c.due("copy()", x.status(), 0);
        x.drop(6);
        x.drop(0);
        c.due("drop()", x.status(), 0);
    }
}
