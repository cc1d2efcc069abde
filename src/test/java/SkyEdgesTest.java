/** Terms, part 2, and promises 9 to 16: the ring of FIELDS, a DAY, WET and GONE, and ACTS. */
public final class SkyEdgesTest {
    private static final Checks c = new Checks();
    private static final String SORTS = "camfb";

    public static void main(String[] args) {
        ring();
        drift();
        anvilsSpread();
        rainByKind();
        needAndWet();
        gone();
        restoredGone();
        tows();
        silk();
        signs();
        winds();
        fell();
        keptActs();
        daysAreActs();
        ringOfActs();
        undoOfEach();
        images();
        c.end();
    }

    private static String one(char sort, int place, int wide, int wet) {
        return sort + "" + place + "," + wide + "," + wet + ",0;";
    }

    /** "FIELDS 0 to 15 lie in a ring (0 behind 15) ... over PLACE and the next FIELDS, WIDE of them together." */
    private static void ring() {
        for (int place = 0; place < 16; place++) {
            for (int wide = 1; wide <= 8; wide++) {
                SignedClouds x = c.under("w0,1;" + one('f', place, wide, 60));
                int bits = 0;
                for (int k = 0; k < wide; k++) {
                    bits |= 1 << (place + k) % 16;
                }
                c.due("FIELDS", x.cloud(0, 4), bits);
                x.days(1);
                for (int field = 0; field < 16; field++) {
                    c.due("over " + field, x.field(field, 1), bits >> field & 1);
                    c.due("fell on " + field, x.field(field, 0), bits >> field & 1);
                }
            }
        }
    }

    /** "PLACE of a cumulus, a mackerel is WIND more (in the ring); that of an anvil WIND and 1 more ... a fog, a bank stay." */
    private static void drift() {
        for (int wind = 0; wind < 16; wind++) {
            for (int place = 0; place < 16; place++) {
                StringBuilder text = new StringBuilder("w" + wind + ",1;");
                for (char sort : SORTS.toCharArray()) {
                    text.append(one(sort, place, 1, 60));
                }
                SignedClouds x = c.under(text.toString());
                int[] on = {wind, wind + 1, wind, 0, 0};
                for (int day = 1; day <= 2; day++) {
                    x.days(1);
                    for (int k = 0; k < 5; k++) {
                        int at = (place + day * on[k]) % 16;
                        c.due("PLACE", x.cloud(k, 0), at);
                        // the anvil is WIDE 2 by then
                        c.due("FIELDS", x.cloud(k, 4), k == 1 ? 1 << at | 1 << (at + 1) % 16 : 1 << at);
                        c.due("from", x.from(k, day), place);
                    }
                }
            }
        }
    }

    /** "it is WIDE by 1 more in DAYS that are even (8 at most)". */
    private static void anvilsSpread() {
        SignedClouds x = c.under("w0,20;a0,1,60,0;c0,1,60,0;m0,1,60,0;f0,1,60,0;b0,1,60,0;");
        int wide = 1;
        for (int day = 0; day < 20; day++) {
            x.days(1);
            wide = day % 2 == 0 ? Math.min(wide + 1, 8) : wide;
            c.due("WIDE behind DAY " + day, x.cloud(0, 1), wide);
            x.silk(0);
        }
        for (int k = 1; k < 5; k++) {
            c.due("no other spreads", x.cloud(k, 1), 1);
        }
        SignedClouds odd = c.under("w0,20;a0,7,60,0;");
        odd.wind(1);
        odd.days(1);
        c.due("7, then 8", odd.cloud(0, 1), 8);
        odd.days(2);
        c.due("8 stays", odd.cloud(0, 1), 8);
        odd.undo();
        odd.undo();
        odd.undo();
        c.due("7 again", odd.cloud(0, 1), 7);
        // a DAY is even by its own number, not by how many were asked for
        odd.days(2);
        c.due("two at once", odd.cloud(0, 1), 8);
    }

    /** "a cumulus 1; an anvil 2; a mackerel 0; a fog 1; a bank 1, but in DAYS that are odd alone." */
    private static void rainByKind() {
        int[][] due = {{1, 1}, {2, 2}, {0, 0}, {1, 1}, {0, 1}};
        for (int k = 0; k < 5; k++) {
            SignedClouds x = c.under("w0,20;" + one(SORTS.charAt(k), 3, 8, 60));
            for (int day = 0; day < 4; day++) {
                int much = 8 * due[k][day % 2];
                boolean enough = x.cloud(0, 2) >= much;
                c.due("NEED", x.cloud(0, 5), much);
                c.due("days(1)", x.days(1), enough ? much : 0);
            }
        }
    }

    /** "if NEED is not 0, and WET is NEED or more, it RAINS ..., and WET is NEED less; else ... WET is 1 less." */
    private static void needAndWet() {
        for (int wide = 1; wide <= 8; wide++) {
            int ofAnvil = 2 * Math.min(wide + 1, 8);
            atNeed('c', wide, wide, 0);
            atNeed('a', wide, ofAnvil, 0);
            atNeed('f', wide, wide, 0);
            atNeed('b', wide, wide, 1);
            for (int wet = 1; wet <= 60; wet++) {
                day('m', wide, wet, 0, 0);
            }
        }
        day('b', 8, 60, 0, 0);
        day('b', 1, 1, 0, 0);
    }

    private static void atNeed(char sort, int wide, int need, int day) {
        for (int wet = Math.max(need - 2, 1); wet <= need + 2; wet++) {
            day(sort, wide, wet, wet >= need ? need : 0, day);
        }
    }

    /** A DAY by one CLOUD: so much falls, and WET is so much less, but 1 at least. */
    private static void day(char sort, int wide, int wet, int falls, int day) {
        // WET 1 more for a DAY in which a bank does not rain
        SignedClouds x = c.under("w0,1;" + one(sort, 15, wide, wet + day));
        if (day > 0) {
            x.days(day);
        }
        String what = sort + " of WIDE " + wide + ", WET " + wet;
        c.due(what + " falls", x.days(1), falls);
        c.due(what + " then", x.cloud(0, 2), wet - Math.max(falls, 1));
        c.due(what + " is there", x.count(2), wet > Math.max(falls, 1) ? 1 : 0);
        c.due(what + " all", x.count(5), falls);
    }

    /** "One with WET 0 is GONE (PLACE, WIDE stay)": it neither goes on, nor spreads, nor rains, nor is over a FIELD. */
    private static void gone() {
        SignedClouds x = c.under("w3,9;a15,4,10,7;c4,2,2,7;m4,3,1,7;f4,1,1,7;b4,8,1,7;");
        c.due("the anvil's last", x.days(1), 10 + 2 + 1);
        c.due("all are GONE", x.count(2), 0);
        int[] places = {3, 7, 7, 4, 4};
        int[] wides = {5, 2, 3, 1, 8};
        for (int day = 1; day < 4; day++) {
            for (int k = 0; k < 5; k++) {
                c.due("PLACE stays", x.cloud(k, 0), places[k]);
                c.due("WIDE stays", x.cloud(k, 1), wides[k]);
                c.due("WET", x.cloud(k, 2), 0);
                c.due("HAND", x.cloud(k, 3), 7);
                c.due("no FIELDS", x.cloud(k, 4), 0);
            }
            c.due("NEED, GONE, too: anvil", x.cloud(0, 5), 10);
            c.due("NEED, GONE, too: cumulus", x.cloud(1, 5), 2);
            c.due("NEED, GONE, too: mackerel", x.cloud(2, 5), 0);
            c.due("NEED, GONE, too: fog", x.cloud(3, 5), 1);
            c.due("NEED, GONE, too: bank", x.cloud(4, 5), day % 2 == 0 ? 0 : 8);
            for (int field = 0; field < 16; field++) {
                c.due("over none", x.field(field, 1), 0);
            }
            c.due("nothing falls", x.days(1), 0);
            c.due("DAY", x.count(3), day + 1);
        }
        c.due("what fell stays", x.count(5), 13);
    }

    /** "one is restored: WET is SILK more (...; GONE ones, too)": it goes on from where it was. */
    private static void restoredGone() {
        SignedClouds x = c.under("w3,9;a15,4,10,7;");
        x.days(2);
        c.due("restored", x.silk(0), 9);
        c.due("where it was", x.cloud(0, 0), 3);
        c.due("over its FIELDS again", x.cloud(0, 4), 8 + 16 + 32 + 64 + 128);
        c.due("WET 9, NEED 12", x.days(1), 0);
        c.due("it went on", x.cloud(0, 0), 7);
        c.due("and spread in DAY 2", x.cloud(0, 1), 6);
        c.due("and is 1 less", x.cloud(0, 2), 8);
    }

    /** Promise 12: "Towed n FIELDS on (1 to 15): PLACE." */
    private static void tows() {
        for (int place = 0; place < 16; place++) {
            for (int n = 1; n <= 15; n++) {
                SignedClouds x = c.under("w5,1;" + one('f', place, 2, 9));
                c.due("tow", x.tow(0, n), (place + n) % 16);
                c.due("PLACE", x.cloud(0, 0), (place + n) % 16);
                c.due("an ACT", x.count(6), 1);
                c.due("undo", x.undo(), 0);
                c.due("PLACE again", x.cloud(0, 0), place);
            }
        }
    }

    /** Promise 13: for each SILK up to 99, and not beyond it. */
    private static void silk() {
        for (int silk = 1; silk <= 20; silk++) {
            for (int wet = 56; wet <= 60; wet++) {
                SignedClouds x = c.under("w0," + silk + ";m0,1," + wet + ",0;");
                int due = wet;
                int acts = 0;
                while (due + silk <= 99) {
                    due += silk;
                    acts++;
                    c.due("silk", x.silk(0), due);
                    c.due("ACTS", x.count(6), Math.min(acts, 24));
                }
                c.due("FULL", x.silk(0), Checks.FULL);
                c.due("WET", x.cloud(0, 2), due);
                c.due("ACTS", x.count(6), Math.min(acts, 24));
            }
        }
    }

    /** Promise 14: "Signed (0 to 9): whose it was." */
    private static void signs() {
        SignedClouds x = c.under("w0,1;m0,1,60,3;m0,1,60,3;");
        int was = 3;
        for (int hand = 0; hand <= 9; hand++) {
            c.due("sign", x.sign(1, hand), was);
            c.due("HAND", x.cloud(1, 3), hand);
            c.due("the other's", x.cloud(0, 3), 3);
            was = hand;
        }
    }

    /** Promise 11: "WIND (0 to 15): what it was." */
    private static void winds() {
        SignedClouds x = c.under("w7,1;m0,1,60,3;");
        int was = 7;
        for (int wind = 0; wind <= 15; wind++) {
            c.due("wind", x.wind(wind), was);
            c.due("WIND", x.count(4), wind);
            was = wind;
        }
        x.days(1);
        c.due("by the last", x.cloud(0, 0), 15);
    }

    /** Promises 10, 16, 41: what fell in n DAYS, on each FIELD, and in all; bits of CLOUDS, 5 of them. */
    private static void fell() {
        SignedClouds x = c.under("w0,1;f0,8,60,0;f0,8,60,0;f0,8,60,0;f0,8,60,0;f8,8,60,0;");
        c.due("all over one", x.field(0, 1), 15);
        c.due("one over it", x.field(15, 1), 16);
        c.due("days(7)", x.days(7), 5 * 8 * 7);
        c.due("WET 4 is too little", x.days(4), 0);
        c.due("GONE", x.count(2), 0);
        c.due("in all", x.count(5), 5 * 8 * 7);
        for (int field = 0; field < 16; field++) {
            c.due("on " + field, x.field(field, 0), field < 8 ? 4 * 7 : 7);
        }
    }

    /** "ACTS (24 at most are kept, of more the oldest is forgotten; each can be undone, the latest first)". */
    private static void keptActs() {
        for (int acts = 0; acts <= 50; acts++) {
            SignedClouds x = c.under("w0,1;m0,1,60,0;m0,1,60,0;");
            for (int n = 0; n < acts; n++) {
                x.wind((n + 1) % 16);
                c.due("kept", x.count(6), Math.min(n + 1, 24));
            }
            int undone = 0;
            for (int left = Math.min(acts, 24) - 1; left >= 0; left--) {
                c.due("undo", x.undo(), left);
                undone++;
                c.due("WIND", x.count(4), (acts - undone) % 16);
            }
            c.due("none is left", x.undo(), Checks.STATE);
            c.due("the first that is not forgotten", x.count(4), Math.max(acts - 24, 0) % 16);
        }
    }

    /** Promise 10: "n DAYS (1 to 24), an ACT each". */
    private static void daysAreActs() {
        for (int n = 1; n <= 24; n++) {
            SignedClouds x = c.under("w0,1;f0,1,60,0;");
            x.wind(1);
            x.wind(2);
            c.due("fell", x.days(n), n);
            c.due("ACTS", x.count(6), Math.min(n + 2, 24));
            for (int left = n - 1; left >= 0; left--) {
                x.undo();
                c.due("DAY", x.count(3), left);
                c.due("what fell so far", x.count(5), left);
                c.due("WET", x.cloud(0, 2), 60 - left);
            }
            c.due("WIND stays", x.count(4), 2);
            c.due("ACTS that are left", x.count(6), Math.min(n + 2, 24) - n);
        }
    }

    /** ACTS that are undone make room for others. */
    private static void ringOfActs() {
        SignedClouds x = c.under("w0,1;m0,1,60,0;");
        for (int n = 0; n < 30; n++) {
            x.tow(0, 1);
        }
        for (int n = 0; n < 10; n++) {
            x.undo();
        }
        c.due("14 are kept", x.count(6), 14);
        c.due("PLACE", x.cloud(0, 0), 20 % 16);
        for (int n = 0; n < 10; n++) {
            x.tow(0, 2);
        }
        c.due("24 are kept", x.count(6), 24);
        x.tow(0, 2);
        c.due("24 are kept yet", x.count(6), 24);
        for (int n = 10; n >= 0; n--) {
            x.undo();
            c.due("PLACE", x.cloud(0, 0), (20 + 2 * n) % 16);
        }
        for (int n = 19; n >= 7; n--) {
            x.undo();
            c.due("PLACE", x.cloud(0, 0), n % 16);
        }
        c.due("none is left", x.undo(), Checks.STATE);
    }

    /** Promise 9: an ACT of each sort is undone, and nothing else with it. */
    private static void undoOfEach() {
        for (String act : new String[] {"days 1", "wind 9", "wind 3", "tow 1 15", "silk 0", "silk 4", "sign 2 9", "sign 2 1"}) {
            SignedClouds x = acting();
            SignedClouds spared = acting();
            Refusals.call(x, act);
            c.due(act + " is an ACT", x.count(6), 3);
            c.due(act + " is undone", x.undo(), 2);
            new Refusals(c).same(act + " and undo", x, spared);
        }
    }

    private static SignedClouds acting() {
        SignedClouds x = c.under("w3,4;a1,2,30,5;f7,3,8,6;m0,1,9,1;c0,1,9,1;b0,1,1,1;");
        x.image(1);
        x.days(2);
        return x;
    }

    /** Promises 35, 36: "The SKY is as an IMAGE kept it (no ACT can be undone then)". */
    private static void images() {
        for (int k = 0; k <= 1; k++) {
            SignedClouds x = acting();
            c.due("image", x.image(k), 1);
            c.due("it is no ACT", x.count(6), 2);
            x.wind(11);
            x.days(3);
            x.sign(0, 0);
            c.due("restore", x.restore(k), 1);
            c.due("no ACT", x.count(6), 0);
            c.due("undo", x.undo(), Checks.STATE);
            SignedClouds spared = acting();
            spared.image(k);
            spared.restore(k);
            new Refusals(c).same("restored", x, spared);
        }
        SignedClouds x = acting();
        x.image(0);
        x.days(1);
        x.image(0);
        x.days(1);
        x.restore(0);
        c.due("the later image", x.count(3), 3);
        x.restore(1);
        c.due("the other image", x.count(3), 0);
        c.due("its CLOUDS", x.count(2), 31);
    }
}
