/** Promises 9 to 16, 35, 36 and 41: what is done, undone, kept and counted. */
public final class ActsTest {
    private static final Checks c = new Checks();

    public static void main(String[] args) {
        goingOn();
        raining();
        lastDay();
        winds();
        towing();
        restoring();
        signing();
        asking();
        undoing();
        forgetting();
        images();
        c.end();
    }

    private static void goingOn() {
        SignedClouds x = c.under("w3,1;c15,1,60,0;a14,1,60,0;m2,1,60,0;f5,1,60,0;b6,1,60,0;");
        x.days(1);
        c.due("cumulus", x.cloud(0, 0), 2);
        c.due("anvil", x.cloud(1, 0), 2);
        c.due("anvil is wider on DAY 0", x.cloud(1, 1), 2);
        c.due("mackerel", x.cloud(2, 0), 5);
        c.due("fog", x.cloud(3, 0), 5);
        c.due("bank", x.cloud(4, 0), 6);
        x.days(1);
        c.due("anvil is as wide on DAY 1", x.cloud(1, 1), 2);
        x.days(1);
        c.due("anvil is wider on DAY 2", x.cloud(1, 1), 3);
        c.due("cumulus is as wide", x.cloud(0, 1), 1);
        SignedClouds y = c.under("w0,20;a0,8,60,0;");
        y.days(1);
        c.due("8 at most", y.cloud(0, 1), 8);
    }

    private static void raining() {
        SignedClouds x = c.under("w1,1;c15,2,5,0;");
        c.due("days(1)", x.days(1), 2);
        c.due("field 0", x.field(0, 0), 1);
        c.due("field 1", x.field(1, 0), 1);
        c.due("field 15", x.field(15, 0), 0);
        c.due("wet", x.cloud(0, 2), 3);
        c.due("days(1)", x.days(1), 2);
        c.due("field 1", x.field(1, 0), 2);
        c.due("wet 1 is less than NEED 2", x.days(1), 0);
        c.due("GONE", x.cloud(0, 2), 0);
        c.due("PLACE stays", x.cloud(0, 0), 2);
        x.days(1);
        c.due("PLACE stays when GONE", x.cloud(0, 0), 2);
        c.due("WIDE stays", x.cloud(0, 1), 2);
        c.due("all", x.count(5), 4);
        SignedClouds y = c.under("w0,1;a0,1,6,0;");
        c.due("WET of just NEED rains", c.under("w0,1;a0,1,4,0;").days(1), 4);
        c.due("anvil 2 on each of 2", y.days(1), 4);
        c.due("anvil: NEED 4, WET 2", y.days(1), 0);
        c.due("wet", y.cloud(0, 2), 1);
        SignedClouds z = c.under("w0,1;b0,3,9,0;");
        c.due("bank on DAY 0", z.days(1), 0);
        c.due("bank on DAY 1", z.days(1), 3);
        c.due("bank's wet", z.cloud(0, 2), 5);
        c.due("mackerel", c.under("w0,1;m0,8,3,0;").days(3), 0);
    }

    private static void lastDay() {
        SignedClouds x = c.under("w0,20;m0,1,60,0;");
        for (int k = 0; k < 41; k++) {
            x.days(24);
        }
        c.due("DAY", x.count(3), 984);
        c.due("days(16)", x.days(16), Checks.FULL);
        c.due("days(25)", x.days(25), Checks.BAD);
        c.due("DAY", x.count(3), 984);
        c.due("days(15)", x.days(15), 0);
        c.due("DAY", x.count(3), 999);
        c.due("days(1)", x.days(1), Checks.FULL);
        c.due("days(0)", x.days(0), Checks.BAD);
        c.due("days(-1)", x.days(-1), Checks.BAD);
        c.due("days(MAX)", x.days(Integer.MAX_VALUE), Checks.BAD);
        c.due("undo", x.undo(), 23);
        c.due("days(1)", x.days(1), 0);
        SignedClouds none = new SignedClouds();
        c.due("STATE ahead of BAD", none.days(0), Checks.STATE);
    }

    private static void winds() {
        SignedClouds x = c.under("w2,1;c0,1,9,0;");
        c.due("wind(15)", x.wind(15), 2);
        c.due("count(4)", x.count(4), 15);
        c.due("wind(0)", x.wind(0), 15);
        c.due("wind(16)", x.wind(16), Checks.BAD);
        c.due("wind(-1)", x.wind(-1), Checks.BAD);
        c.due("the same", x.wind(0), 0);
        c.due("three ACTS", x.count(6), 3);
        c.due("STATE ahead of BAD", new SignedClouds().wind(99), Checks.STATE);
    }

    private static void towing() {
        SignedClouds x = c.under("w0,1;m14,1,2,0;");
        c.due("tow 1", x.tow(0, 1), 15);
        c.due("tow 15", x.tow(0, 15), 14);
        c.due("tow 4", x.tow(0, 4), 2);
        c.due("tow 0", x.tow(0, 0), Checks.BAD);
        c.due("tow 16", x.tow(0, 16), Checks.BAD);
        c.due("tow of none", x.tow(1, 1), Checks.BAD);
        c.due("tow of -1", x.tow(-1, 1), Checks.BAD);
        c.due("ACTS", x.count(6), 3);
        x.days(2);
        c.due("GONE", x.tow(0, 1), Checks.STATE);
        c.due("BAD ahead of STATE", x.tow(0, 16), Checks.BAD);
        c.due("ACTS", x.count(6), 5);
    }

    private static void restoring() {
        SignedClouds x = c.under("w0,20;m0,1,59,0;c0,8,1,0;");
        c.due("silk", x.silk(0), 79);
        c.due("silk", x.silk(0), 99);
        c.due("above 99", x.silk(0), Checks.FULL);
        c.due("none such", x.silk(2), Checks.BAD);
        c.due("ACTS", x.count(6), 2);
        x.days(1);
        c.due("cloud 1 is GONE", x.count(2), 1);
        c.due("GONE ones, too", x.silk(1), 20);
        c.due("both", x.count(2), 3);
        c.due("98 and 20", x.silk(0), Checks.FULL);
        SignedClouds y = c.under("w0,20;m0,1,60,0;");
        c.due("60 and 20", y.silk(0), 80);
        c.due("80 and 20", y.silk(0), Checks.FULL);
    }

    private static void signing() {
        SignedClouds x = c.under("w0,1;m0,1,1,7;");
        c.due("sign", x.sign(0, 9), 7);
        c.due("hand", x.cloud(0, 3), 9);
        c.due("sign 10", x.sign(0, 10), Checks.BAD);
        c.due("sign -1", x.sign(0, -1), Checks.BAD);
        c.due("sign of none", x.sign(1, 0), Checks.BAD);
        x.days(1);
        c.due("a GONE one", x.sign(0, 0), 9);
        c.due("ACTS", x.count(6), 3);
    }

    private static void asking() {
        SignedClouds x = c.under("w0,1;b14,4,1,7;c0,8,60,1;");
        c.due("FIELDS round the ring", x.cloud(0, 4), 0xC003);
        c.due("NEED on DAY 0", x.cloud(0, 5), 0);
        c.due("over 15", x.field(15, 1), 1);
        c.due("over 1", x.field(1, 1), 3);
        c.due("over 7", x.field(7, 1), 2);
        c.due("over 8", x.field(8, 1), 0);
        x.days(1);
        c.due("GONE: no FIELDS", x.cloud(0, 4), 0);
        c.due("NEED on DAY 1, GONE", x.cloud(0, 5), 4);
        c.due("over 15", x.field(15, 1), 0);
        c.due("fell", x.field(7, 0), 1);
        c.due("what 6", x.cloud(0, 6), Checks.BAD);
        c.due("what -1", x.cloud(0, -1), Checks.BAD);
        c.due("cloud 2", x.cloud(2, 0), Checks.BAD);
        c.due("field 16", x.field(16, 0), Checks.BAD);
        c.due("field -1", x.field(-1, 0), Checks.BAD);
        c.due("field what 2", x.field(0, 2), Checks.BAD);
        c.due("field what -1", x.field(0, -1), Checks.BAD);
        c.due("STATE ahead of BAD", new SignedClouds().field(16, 9), Checks.STATE);
        c.due("count(8)", x.count(8), Checks.BAD);
        c.due("count(-1)", x.count(-1), Checks.BAD);
    }

    private static void undoing() {
        SignedClouds x = c.under("w1,5;c0,2,9,3;a4,1,9,4;");
        x.days(1);
        x.wind(7);
        x.tow(0, 3);
        x.silk(1);
        x.sign(0, 8);
        c.due("undo sign", x.undo(), 4);
        c.due("hand", x.cloud(0, 3), 3);
        c.due("undo silk", x.undo(), 3);
        c.due("wet", x.cloud(1, 2), 5);
        c.due("undo tow", x.undo(), 2);
        c.due("place", x.cloud(0, 0), 1);
        c.due("undo wind", x.undo(), 1);
        c.due("wind", x.count(4), 1);
        c.due("fell", x.count(5), 6);
        c.due("undo a DAY", x.undo(), 0);
        c.due("DAY", x.count(3), 0);
        c.due("fell", x.count(5), 0);
        c.due("place", x.cloud(0, 0), 0);
        c.due("wet", x.cloud(0, 2), 9);
        c.due("wide", x.cloud(1, 1), 1);
        c.due("no more", x.undo(), Checks.STATE);
    }

    private static void forgetting() {
        SignedClouds x = c.under("w0,1;m0,1,60,0;");
        for (int n = 1; n <= 30; n++) {
            x.tow(0, 1);
            c.due("ACTS", x.count(6), Math.min(n, 24));
        }
        c.due("place", x.cloud(0, 0), 14);
        for (int n = 23; n >= 0; n--) {
            c.due("undo", x.undo(), n);
        }
        c.due("none is left", x.undo(), Checks.STATE);
        c.due("six were forgotten", x.cloud(0, 0), 6);
        x.days(20);
        x.days(20);
        c.due("24 are kept", x.count(6), 24);
        for (int n = 0; n < 24; n++) {
            x.undo();
        }
        c.due("DAY", x.count(3), 16);
    }

    private static void images() {
        SignedClouds x = c.under("w1,5;c0,2,9,3;");
        c.due("restore, none kept", x.restore(0), Checks.STATE);
        c.due("image(0)", x.image(0), 1);
        c.due("restore(1), none kept", x.restore(1), Checks.STATE);
        x.days(2);
        x.wind(9);
        c.due("image(1)", x.image(1), 1);
        c.due("image is no ACT", x.count(6), 3);
        c.due("another sky", c.read(x, "w0,1;f0,1,1,1;m0,1,1,1;"), 2);
        c.due("restore(1)", x.restore(1), 1);
        c.due("DAY", x.count(3), 2);
        c.due("WIND", x.count(4), 9);
        c.due("fell", x.count(5), 4);
        c.due("clouds", x.count(1), 1);
        c.due("no ACT", x.count(6), 0);
        c.due("undo", x.undo(), Checks.STATE);
        x.days(1);
        c.due("restore(0)", x.restore(0), 1);
        c.due("DAY", x.count(3), 0);
        c.due("SILK is kept", x.silk(0), 14);
        c.due("no ACT but this", x.count(6), 1);
        c.due("restore(0) again", x.restore(0), 1);
        c.due("the image did not change", x.cloud(0, 2), 9);
        c.due("image(2)", x.image(2), Checks.BAD);
        c.due("image(-1)", x.image(-1), Checks.BAD);
        c.due("restore(2)", x.restore(2), Checks.BAD);
        c.due("restore(-1)", x.restore(-1), Checks.BAD);
        c.due("no sky", new SignedClouds().image(0), Checks.STATE);
        c.due("BAD ahead of STATE", new SignedClouds().image(2), Checks.BAD);
        c.due("BAD ahead of STATE", new SignedClouds().restore(2), Checks.BAD);
    }
}
