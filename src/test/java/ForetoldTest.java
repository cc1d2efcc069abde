/** Promises 17 to 34: what is foretold. */
public final class ForetoldTest {
    private static final Checks c = new Checks();

    public static void main(String[] args) {
        ahead();
        rainAhead();
        drySpells();
        goneAndStorms();
        blue();
        leastTow();
        whoAndPlaces();
        from();
        alike();
        likenessAndEstate();
        seen();
        drawn();
        refusals();
        c.end();
    }

    private static void ahead() {
        SignedClouds x = c.under("w5,1;c14,1,2,0;a0,1,60,0;m1,8,60,0;");
        c.due("now", x.ahead(0, 0, 0), 14);
        c.due("a DAY", x.ahead(0, 1, 0), 3);
        c.due("GONE", x.ahead(0, 2, 0), Checks.NONE);
        c.due("GONE", x.ahead(0, 2, 1), Checks.NONE);
        c.due("anvil", x.ahead(1, 1, 0), 6);
        c.due("anvil's WIDE", x.ahead(1, 3, 1), 3);
        c.due("mackerel", x.ahead(2, 59, 0), (1 + 59 * 5) % 16);
        c.due("mackerel", x.ahead(2, 60, 0), Checks.NONE);
        c.due("over", x.over(3, 1), 1);
        c.due("over", x.over(6, 1), 2 + 4);
        c.due("over now", x.over(14, 0), 1);
        c.due("over, GONE", x.over(3, 2), 0);
        c.due("nothing changed", x.count(3), 0);
        c.due("nothing fell", x.count(5), 0);
        c.due("no ACT", x.count(6), 0);
        x.days(24);
        x.silk(2);
        c.due("as it is then", x.ahead(2, 36, 0), (1 + 60 * 5) % 16);
    }

    private static void rainAhead() {
        SignedClouds x = c.under("w0,1;b7,2,9,0;f7,1,2,0;");
        c.due("falls 0", x.falls(7, 0), 0);
        c.due("falls 1", x.falls(7, 1), 1);
        c.due("falls 2", x.falls(7, 2), 3);
        c.due("falls 2 beside", x.falls(8, 2), 1);
        c.due("falls 60", x.falls(8, 60), 3);
        c.due("dry 0", x.dry(0), 65535);
        c.due("dry 1", x.dry(1), 65535 - 128);
        c.due("dry 60", x.dry(60), 65535 - 128 - 256);
        c.due("first", x.first(7), 1);
        c.due("first", x.first(8), 2);
        c.due("first", x.first(9), Checks.NONE);
        x.days(1);
        c.due("what fell is not what falls", x.falls(7, 0), 0);
        c.due("falls 1", x.falls(7, 1), 2);
        c.due("dry of what fell", x.dry(0), 65535);
        c.due("first", x.first(8), 1);
        SignedClouds y = c.under("w0,20;b0,1,60,0;");
        y.silk(0);
        c.due("falls in 60 DAYS", y.falls(0, 60), 30);
        c.due("falls 59", y.falls(0, 59), 29);
    }

    private static void drySpells() {
        // a bank of WIDE 1 loses 1 each DAY and rains in odd ones: with WET 9 for the last time in DAY 7
        SignedClouds x = c.under("w0,1;b7,1,9,0;");
        c.due("1 DAY", x.harvest(7, 1), 0);
        c.due("2 DAYS", x.harvest(7, 2), 8);
        c.due("elsewhere", x.harvest(6, 9), 0);
        SignedClouds y = c.under("w0,1;f7,1,30,0;");
        c.due("behind 30", y.harvest(7, 9), 30);
        SignedClouds z = c.under("w0,1;f7,1,31,0;");
        c.due("behind 31", z.harvest(7, 1), Checks.NONE);
        SignedClouds bank = c.under("w0,1;b7,1,60,0;");
        c.due("each other DAY", bank.harvest(7, 2), Checks.NONE);
        bank.days(1);
        c.due("from DAY 1 on", bank.harvest(7, 1), 1);
    }

    private static void goneAndStorms() {
        SignedClouds x = c.under("w1,20;m0,2,60,0;m5,1,60,1;f8,1,5,0;c8,1,1,1;");
        c.due("gone 60", x.gone(0), 60);
        c.due("gone 5", x.gone(2), 5);
        c.due("gone 1", x.gone(3), 1);
        x.silk(0);
        c.due("gone 80", x.gone(0), Checks.NONE);
        c.due("never", x.storm(0, 1), Checks.NONE);
        c.due("one HAND", x.storm(0, 2), Checks.NONE);
        c.due("behind 3", x.storm(1, 2), 3);
        c.due("either way", x.storm(2, 1), 3);
        c.due("now", x.storm(2, 3), 0);
        c.due("one HAND, over one FIELD", signed(x, 3, 0).storm(2, 3), Checks.NONE);
        x.undo();
        x.days(1);
        c.due("GONE now", x.gone(3), 0);
        c.due("one is GONE", x.storm(2, 3), Checks.NONE);
        c.due("alike", x.storm(1, 1), Checks.BAD);
    }

    private static SignedClouds signed(SignedClouds x, int cloud, int hand) {
        x.sign(cloud, hand);
        return x;
    }

    private static void blueIs(String text, int many, int from) {
        SignedClouds x = c.under(text);
        c.due("blue(0) of " + text, x.blue(0), many);
        c.due("blue(1) of " + text, x.blue(1), from);
    }

    private static void blue() {
        blueIs("w0,1;f0,8,1,0;f8,8,1,0;", 0, Checks.NONE);
        blueIs("w0,1;f0,8,1,0;", 8, 8);
        blueIs("w0,1;f4,8,1,0;", 8, 12);
        blueIs("w0,1;f0,4,1,0;f8,4,1,0;", 4, 4);
        blueIs("w0,1;f2,4,1,0;f10,4,1,0;", 4, 6);
        blueIs("w0,1;f3,1,1,0;", 15, 4);
        blueIs("w0,1;f0,7,1,0;f8,7,1,0;", 1, 7);
        SignedClouds x = c.under("w0,1;f0,8,1,0;");
        x.days(1);
        c.due("all", x.blue(0), 16);
        c.due("all, from", x.blue(1), 0);
        c.due("blue(2)", x.blue(2), Checks.BAD);
    }

    private static void leastTow() {
        SignedClouds x = c.under("w0,1;f4,1,9,0;f6,1,9,0;m0,8,9,0;f0,1,9,0;");
        c.due("none told", x.leastTow(0, 1, -1), 0);
        c.due("there already", x.leastTow(1 << 4, 1, -1), 0);
        c.due("the first way of 1 FIELD", x.leastTow(1 << 7, 1, -1), 1);
        c.due("cloud 1 goes", x.leastTow(1 << 7, 1, 1), 1);
        c.due("cloud 0 stays", x.leastTow(1 << 7, 1, 0), 0);
        c.due("two are asked", x.leastTow(1 << 7 | 1 << 9, 1, -1), 6);
        c.due("one too far", x.leastTow(1 << 7 | 1 << 10, 1, -1), Checks.NONE);
        c.due("6 and 7: 2 and 1, or 3 and 0", x.leastTow(1 << 6 | 1 << 7, 1, -1), 3);
        c.due("cloud 0: the lesser first", x.leastTow(1 << 6 | 1 << 7, 1, 0), 2);
        c.due("cloud 1", x.leastTow(1 << 6 | 1 << 7, 1, 1), 1);
        c.due("cloud 2", x.leastTow(1 << 6 | 1 << 7, 1, 2), 0);
        c.due("no such way, k", x.leastTow(1 << 10, 1, 0), Checks.NONE);
        c.due("k 4", x.leastTow(0, 1, 4), Checks.BAD);
        c.due("k -2", x.leastTow(0, 1, -2), Checks.BAD);
        c.due("n 0", x.leastTow(0, 0, -1), Checks.BAD);
        c.due("n 25", x.leastTow(0, 25, -1), Checks.BAD);
        c.due("fields -1", x.leastTow(-1, 1, -1), Checks.BAD);
        c.due("fields 65536", x.leastTow(65536, 1, -1), Checks.BAD);
        SignedClouds y = c.under("w15,1;c1,1,3,0;");
        c.due("round the ring", y.leastTow(1 << 15 | 1 << 0, 3, -1), 0);
        c.due("against it", y.leastTow(1 << 2, 3, -1), 2);
        c.due("not within 2 DAYS", y.leastTow(1 << 15 | 1 << 0, 1, -1), Checks.NONE);
        farTow();
        SignedClouds z = c.under("w0,1;f4,1,1,0;f3,1,9,0;");
        z.days(1);
        c.due("a GONE one is not towed", z.leastTow(1 << 5, 1, 0), 0);
        c.due("the other is", z.leastTow(1 << 5, 1, 1), 2);
    }

    private static void farTow() {
        SignedClouds x = c.under("w0,1;f0,1,9,0;f4,1,9,0;f8,1,9,0;f12,1,9,0;f13,1,9,0;");
        int told = 1 << 3 | 1 << 7 | 1 << 11 | 1 << 15 | 1 << 0;
        c.due("each as far as can be", x.leastTow(told, 1, -1), 15);
        c.due("the last one, too", x.leastTow(told, 1, 4), 3);
        SignedClouds bank = c.under("w0,1;b5,1,9,0;");
        c.due("a bank in DAY 0", bank.leastTow(1 << 6, 1, -1), Checks.NONE);
        c.due("a bank in DAYS 0 and 1", bank.leastTow(1 << 6, 2, -1), 1);
        c.due("FIELD 0 is not near", bank.leastTow(1, 24, -1), Checks.NONE);
        bank.days(1);
        c.due("a bank in DAY 1", bank.leastTow(1 << 6, 1, 0), 1);
        c.due("but 3 FIELDS on at most", bank.leastTow(1 << 9, 1, 0), Checks.NONE);
    }

    private static void whoAndPlaces() {
        SignedClouds x = c.under("w1,1;c0,1,60,0;f9,1,2,0;");
        c.tell(x, 0, 1, 0, 1, 0, 1, 1, 0, -1);
        c.due("0 1 on FIELD 2: a cumulus", x.who(0, 2, 0, 0, 2), 1 << 1);
        c.due("1 on FIELD 1: a cumulus", x.who(0, 1, 0, 1, 1), 1 << 1);
        c.due("0 1 on FIELD 0: a bank", x.who(0, 0, 0, 0, 2), 1 << 5);
        c.due("1 1 0 on FIELD 9: others, too", x.who(0, 9, 0, 3, 3), 62);
        c.due("-1 never falls", x.who(0, 9, 0, 6, 1), 0);
        c.due("places for 0 1 on FIELD 2", x.places(0, 2, 0, 0, 2), 1);
        c.due("places for 1 0 on FIELD 0", x.places(0, 0, 0, 1, 2), 1 << 15);
        c.due("places of the fog for 0 1 on FIELD 9", x.places(1, 9, 0, 0, 2), 0);
        c.due("no ROW yet", x.who(0, 0, 1, 0, 1), Checks.NULL);
        c.due("no such PLACE", x.who(0, 0, 0, 6, 2), Checks.PLACE);
        c.due("no such PLACE", x.who(0, 0, 0, -1, 2), Checks.PLACE);
        c.due("NULL ahead of PLACE", x.places(0, 0, 1, -1, 1), Checks.NULL);
        c.due("no such PLACE", x.places(0, 0, 0, Integer.MAX_VALUE, 12), Checks.PLACE);
        for (int n : new int[] {0, 13, -1, Integer.MIN_VALUE}) {
            c.due("n", x.who(0, 0, 0, 0, n), Checks.BAD);
            c.due("n", x.places(0, 0, 0, 0, n), Checks.BAD);
        }
        c.due("cloud 2", x.who(2, 0, 0, 0, 1), Checks.BAD);
        c.due("field 16", x.places(0, 16, 0, 0, 1), Checks.BAD);
        c.due("row 8", x.who(0, 0, 8, 0, 1), Checks.BAD);
        c.due("BAD ahead of NULL", x.who(2, 0, 1, 0, 1), Checks.BAD);
        x.days(2);
        c.due("fog is GONE: PLACE first", x.places(1, 0, 0, 7, 1), Checks.PLACE);
        c.due("fog is GONE", x.places(1, 0, 0, 0, 1), Checks.STATE);
        c.due("who of a GONE one", x.who(1, 9, 0, 0, 1), 62);
        c.due("the kind stays", x.kind(0), 1);
        c.due("the place stays", x.cloud(0, 0), 2);
    }

    private static void from() {
        SignedClouds x = c.under("w5,1;c1,1,60,0;a1,1,60,0;m1,1,60,0;f1,1,60,0;b1,1,1,0;");
        c.due("0 DAYS", x.from(0, 0), 1);
        c.due("cumulus", x.from(0, 1), 12);
        c.due("anvil", x.from(1, 1), 11);
        c.due("mackerel", x.from(2, 60), Math.floorMod(1 - 300, 16));
        c.due("anvil", x.from(1, 60), Math.floorMod(1 - 360, 16));
        c.due("fog", x.from(3, 33), 1);
        c.due("bank", x.from(4, 33), 1);
        c.due("61", x.from(0, 61), Checks.BAD);
        c.due("-1", x.from(0, -1), Checks.BAD);
        c.due("cloud 5", x.from(5, 1), Checks.BAD);
        x.days(1);
        c.due("GONE", x.from(4, 1), Checks.STATE);
        c.due("BAD ahead of STATE", x.from(4, 61), Checks.BAD);
        x.wind(0);
        c.due("WIND as it is", x.from(0, 9), 6);
    }

    private static void alike() {
        SignedClouds x = c.under("w0,1;f0,2,1,0;c0,2,9,0;f9,2,9,1;f5,2,9,1;f5,3,9,4;");
        c.due("pairs", x.alike(0), 2);
        c.due("the first", x.alike(1), 2);
        x.sign(3, 2);
        c.due("pairs", x.alike(0), 3);
        x.days(1);
        c.due("a GONE one is not", x.alike(0), 1);
        c.due("the first", x.alike(1), 23);
        x.sign(3, 1);
        c.due("none", x.alike(0), 0);
        c.due("none", x.alike(1), Checks.NONE);
        c.due("what 2", x.alike(2), Checks.BAD);
    }

    private static void likenessAndEstate() {
        SignedClouds x = c.under("w0,1;f0,2,10,3;f0,4,13,3;c0,2,10,4;m0,8,60,3;c0,1,1,3;");
        c.due("like KINDS", x.likeness(0, 1), 100 - 10 - 3);
        c.due("unlike KINDS", x.likeness(0, 2), 80);
        c.due("either way", x.likeness(1, 0), 87);
        c.due("0 at least", x.likeness(3, 4), 0);
        c.due("alike", x.likeness(1, 1), Checks.BAD);
        c.due("none such", x.likeness(1, 5), Checks.BAD);
        c.due("estate 3", x.estate(3), 10 + 13 + 60 + 1);
        c.due("estate 4", x.estate(4), 10);
        c.due("estate 0", x.estate(0), 0);
        c.due("estate 9", x.estate(9), 0);
        c.due("estate 10", x.estate(10), Checks.BAD);
        c.due("estate -1", x.estate(-1), Checks.BAD);
    }

    private static void seenIs(SignedClouds x, int k, int p, long above, long below) {
        c.due("seen(" + k + "," + p + ",0)", x.seen(k, p, 0), above);
        c.due("seen(" + k + "," + p + ",1)", x.seen(k, p, 1), below);
    }

    private static void seen() {
        SignedClouds x = c.under("w0,1;f0,2,10,3;f0,4,10,3;c0,2,10,4;m0,8,60,3;c0,1,1,3;");
        seenIs(x, 0, 0, 1, 1);
        seenIs(x, 1, 0, 0, 1);
        seenIs(x, 5, 10, 1, 1);
        seenIs(x, 5, 3, 243, 100000);
        seenIs(x, 1, 1, 40951, 100000);
        seenIs(x, 3, 5, 1, 2);
        x.days(1);
        seenIs(x, 5, 10, 0, 1);
        seenIs(x, 4, 10, 1, 1);
        seenIs(x, 4, 2, 1, 625);
        seenIs(x, 0, 7, 1, 1);
        c.due("k 6", x.seen(6, 1, 0), Checks.BAD);
        c.due("k -1", x.seen(-1, 1, 0), Checks.BAD);
        c.due("p 11", x.seen(1, 11, 0), Checks.BAD);
        c.due("p -1", x.seen(1, -1, 0), Checks.BAD);
        c.due("what 2", x.seen(1, 1, 2), Checks.BAD);
    }

    private static void drawn() {
        SignedClouds x = c.under("w0,3;c0,2,5,0;f0,1,1,1;");
        c.due("no DAY", x.drawn(0, 1, 0), 0);
        c.due("no DAY", x.drawn(0, 1, 1), 3);
        // X 16807: by 9 leaves 4, nothing is restored
        c.due("a DAY", x.drawn(1, 1, 0), 3);
        c.due("a DAY", x.drawn(1, 1, 1), 1);
        // X 151263, by 9 leaves 0, by 2 leaves 1: the fog has WET 4 and rains 4 DAYS
        c.due("a DAY from 9", x.drawn(1, 9, 1), 3);
        c.due("as it was", x.count(4), 0);
        c.due("as it was", x.cloud(1, 2), 1);
        c.due("n 61", x.drawn(61, 1, 0), Checks.BAD);
        c.due("n -1", x.drawn(-1, 1, 0), Checks.BAD);
        c.due("seed 0", x.drawn(1, 0, 0), Checks.BAD);
        c.due("seed 1000000", x.drawn(1, 1000000, 0), Checks.BAD);
        c.due("seed 999999", x.drawn(60, 999999, 0) >= 0 ? 1 : 0, 1);
        c.due("what 2", x.drawn(1, 1, 2), Checks.BAD);
        // restored 99 at most, where silk() refuses: WET 99 stays 99, and one DAY takes NEED
        SignedClouds y = c.under("w0,20;f0,8,59,0;");
        y.silk(0);
        y.silk(0);
        c.due("as much as rains", y.drawn(1, 9, 0), 8);
        SignedClouds z = c.under("w0,9;f0,8,1,0;");
        c.due("one CLOUD, restored", z.drawn(1, 9, 0), 8);
        c.due("not restored", z.drawn(1, 1, 0), 0);
    }

    private static void refusals() {
        SignedClouds x = c.under("w0,1;f0,1,9,0;f1,1,9,0;");
        c.due("ahead", x.ahead(2, 0, 0), Checks.BAD);
        c.due("ahead", x.ahead(0, 61, 0), Checks.BAD);
        c.due("ahead", x.ahead(0, -1, 0), Checks.BAD);
        c.due("ahead", x.ahead(0, 0, 2), Checks.BAD);
        c.due("over", x.over(16, 0), Checks.BAD);
        c.due("over", x.over(0, 61), Checks.BAD);
        c.due("falls", x.falls(-1, 0), Checks.BAD);
        c.due("falls", x.falls(0, -1), Checks.BAD);
        c.due("dry", x.dry(61), Checks.BAD);
        c.due("dry", x.dry(-1), Checks.BAD);
        c.due("first", x.first(16), Checks.BAD);
        c.due("gone", x.gone(2), Checks.BAD);
        c.due("storm", x.storm(0, 2), Checks.BAD);
        c.due("storm", x.storm(-1, 0), Checks.BAD);
        c.due("harvest", x.harvest(0, 0), Checks.BAD);
        c.due("harvest", x.harvest(0, 10), Checks.BAD);
        c.due("harvest", x.harvest(16, 1), Checks.BAD);
        SignedClouds none = new SignedClouds();
        c.due("over", none.over(16, 0), Checks.STATE);
        c.due("falls", none.falls(16, 0), Checks.STATE);
        c.due("dry", none.dry(61), Checks.STATE);
        c.due("first", none.first(16), Checks.STATE);
        c.due("blue", none.blue(2), Checks.STATE);
        c.due("leastTow", none.leastTow(-1, 0, 9), Checks.STATE);
        c.due("harvest", none.harvest(16, 0), Checks.STATE);
        c.due("alike", none.alike(2), Checks.STATE);
        c.due("estate", none.estate(10), Checks.STATE);
        c.due("seen", none.seen(9, 99, 9), Checks.STATE);
        c.due("drawn", none.drawn(99, 0, 9), Checks.STATE);
    }
}
