/** Terms, part 3, and promises 17 to 34: what is foretold, at the ends of its reach. */
public final class ForetoldEdgesTest {
    private static final Checks c = new Checks();
    private static final int ALL = 65535;

    public static void main(String[] args) {
        ahead();
        over();
        falls();
        dry();
        first();
        gone();
        storm();
        stormOfGone();
        blue();
        towReach();
        towDays();
        towGone();
        towFirstWay();
        harvest();
        harvestLastDay();
        who();
        places();
        from();
        alike();
        likeness();
        estate();
        seen();
        seenOfFewer();
        drawn();
        drawnSilk();
        c.end();
    }

    /** A SKY under which a CLOUD lasts: WET 99. */
    private static SignedClouds lasting(String text) {
        SignedClouds x = c.under(text);
        for (int one = 0; one < x.count(1); one++) {
            x.silk(one);
            x.silk(one);
            x.silk(one);
        }
        return x;
    }

    /** "AHEAD by n DAYS (0 to 60): PLACE of a CLOUD (NONE: GONE); WIDE of it (NONE)." */
    private static void ahead() {
        SignedClouds x = lasting("w3,13;m5,4,60,0;a5,1,60,0;f5,8,60,0;");
        c.due("WET", x.cloud(0, 2), 99);
        for (int n = 0; n <= 60; n++) {
            c.due("mackerel " + n, x.ahead(0, n, 0), (5 + 3 * n) % 16);
            c.due("its WIDE " + n, x.ahead(0, n, 1), 4);
        }
        int wide = 1;
        for (int n = 0; n <= 12; n++) {
            c.due("anvil " + n, x.ahead(1, n, 0), (5 + 4 * n) % 16);
            c.due("its WIDE " + n, x.ahead(1, n, 1), wide);
            wide += n % 2 == 0 ? 1 : 0;
        }
        // NEED 8: twelve DAYS of rain, WET 3, three DAYS more
        c.due("fog 14", x.ahead(2, 14, 0), 5);
        c.due("fog 15", x.ahead(2, 15, 0), Checks.NONE);
        c.due("its WIDE 14", x.ahead(2, 14, 1), 8);
        c.due("its WIDE 15", x.ahead(2, 15, 1), Checks.NONE);
        SignedClouds now = c.under("w1,1;m5,4,1,0;m5,4,60,0;");
        now.days(1);
        c.due("GONE now", now.ahead(0, 0, 0), Checks.NONE);
        c.due("GONE now", now.ahead(0, 60, 1), Checks.NONE);
        c.due("58 DAYS", now.ahead(1, 58, 0), (6 + 58) % 16);
        c.due("59 DAYS", now.ahead(1, 59, 0), Checks.NONE);
    }

    /** "OVER: CLOUDS (bits) over a FIELD then." */
    private static void over() {
        SignedClouds x = lasting("w1,13;m15,2,60,0;m0,1,60,0;m0,1,60,0;m0,1,60,0;m0,1,60,0;");
        for (int n = 0; n <= 60; n++) {
            c.due("over the last FIELD of all " + n, x.over(n % 16, n), 31);
            c.due("over the first of one " + n, x.over((15 + n) % 16, n), 1);
            c.due("over none " + n, x.over((1 + n) % 16, n), 0);
        }
        SignedClouds y = c.under("w0,1;m3,1,1,0;m3,1,2,0;");
        c.due("both", y.over(3, 0), 3);
        c.due("one is GONE", y.over(3, 1), 2);
        c.due("both are GONE", y.over(3, 2), 0);
    }

    /** "FALLS: how much falls on a FIELD in the next n DAYS (0 to 60)." */
    private static void falls() {
        SignedClouds x = lasting("w0,13;f0,1,60,0;b0,1,60,0;");
        for (int n = 0; n <= 60; n++) {
            c.due("falls " + n, x.falls(0, n), n + n / 2);
            c.due("elsewhere " + n, x.falls(1, n) + x.falls(15, n), 0);
        }
        x.days(1);
        for (int n = 0; n <= 60; n++) {
            c.due("falls from DAY 1 on " + n, x.falls(0, n), n + (n + 1) / 2);
        }
    }

    /** "DRY: FIELDS (bits) on which nothing does." */
    private static void dry() {
        SignedClouds x = lasting("w1,13;c15,1,60,0;");
        int dry = ALL;
        for (int n = 0; n <= 60; n++) {
            c.due("dry " + n, x.dry(n), dry);
            dry &= ~(1 << n % 16);
        }
        SignedClouds y = c.under("w1,13;m15,8,60,0;");
        c.due("all stay dry", y.dry(60), ALL);
    }

    /** "FIRST: behind how many DAYS (1 to 60) something fell on a FIELD first; NONE." */
    private static void first() {
        SignedClouds x = c.under("w1,13;c15,1,16,0;");
        for (int field = 0; field < 16; field++) {
            c.due("first on " + field, x.first(field), field + 1);
        }
        SignedClouds y = c.under("w1,13;c15,1,15,0;");
        c.due("its last", y.first(14), 15);
        c.due("not any more", y.first(15), Checks.NONE);
        SignedClouds z = c.under("w0,1;f3,1,2,0;f4,1,1,0;");
        z.days(1);
        c.due("what fell before does not count", z.first(4), Checks.NONE);
        c.due("what falls now does", z.first(3), 1);
    }

    /** "GONE: behind how many DAYS (0: now; 60 at most) a CLOUD is GONE first; NONE." */
    private static void gone() {
        for (int wet = 1; wet <= 60; wet++) {
            c.due("gone " + wet, c.under("w1,1;m5,4," + wet + ",0;").gone(0), wet);
        }
        SignedClouds x = c.under("w1,1;m5,4,60,0;");
        x.silk(0);
        c.due("61", x.gone(0), Checks.NONE);
        x.days(1);
        c.due("60", x.gone(0), 60);
        SignedClouds y = c.under("w1,1;m5,4,1,0;");
        y.days(1);
        c.due("now", y.gone(0), 0);
        y.silk(0);
        c.due("no more", y.gone(0), 1);
    }

    /** "STORM: behind how many DAYS (0: now; 60 at most) two CLOUDS are over one FIELD first". */
    private static void storm() {
        for (int far = 0; far < 16; far++) {
            SignedClouds x = c.under("w1,1;m" + (16 - far) % 16 + ",1,60,0;f0,1,60,1;");
            c.due("behind " + far, x.storm(0, 1), far);
            c.due("the other way round " + far, x.storm(1, 0), far);
            x.sign(1, 0);
            c.due("of one HAND " + far, x.storm(0, 1), Checks.NONE);
            c.due("of one HAND, the other way round " + far, x.storm(1, 0), Checks.NONE);
        }
        c.due("side by side", c.under("w0,1;m14,2,60,0;f0,2,60,1;").storm(0, 1), Checks.NONE);
        c.due("round the ring", c.under("w0,1;m14,3,60,0;f0,2,60,1;").storm(0, 1), 0);
        c.due("its last FIELD", c.under("w0,1;m14,2,60,0;f15,2,60,1;").storm(0, 1), 0);
        c.due("they never meet", c.under("w2,1;m0,1,60,0;f1,1,60,1;").storm(0, 1), Checks.NONE);
    }

    /** "neither GONE": the DAY on which they would meet is the one that counts. */
    private static void stormOfGone() {
        c.due("it lasts so long", c.under("w1,1;m12,1,5,0;f0,1,60,1;").storm(0, 1), 4);
        c.due("it does not", c.under("w1,1;m12,1,4,0;f0,1,60,1;").storm(0, 1), Checks.NONE);
        c.due("the other lasts so long", c.under("w1,1;m12,1,60,0;f0,1,5,1;").storm(0, 1), 4);
        c.due("the other does not", c.under("w1,1;m12,1,60,0;f0,1,4,1;").storm(0, 1), Checks.NONE);
        SignedClouds x = c.under("w0,1;f3,1,1,0;f3,1,9,1;");
        c.due("now", x.storm(0, 1), 0);
        x.days(1);
        c.due("GONE now", x.storm(0, 1), Checks.NONE);
        c.due("GONE now, the other way round", x.storm(1, 0), Checks.NONE);
        x.silk(0);
        c.due("restored", x.storm(0, 1), 0);
    }

    /** "BLUE: ... of several the first (0 and NONE: none is; 16 and 0: all are)." */
    private static void blue() {
        for (int place = 0; place < 16; place++) {
            for (int wide = 1; wide <= 8; wide++) {
                SignedClouds x = c.under("w0,1;m" + place + "," + wide + ",1,0;");
                c.due("blue", x.blue(0), 16 - wide);
                c.due("from", x.blue(1), (place + wide) % 16);
                x.days(1);
                c.due("all", x.blue(0), 16);
                c.due("all, from", x.blue(1), 0);
            }
        }
        blueIs("m0,8,1,0;m8,8,1,0;", 0, Checks.NONE);
        blueIs("m4,8,1,0;m12,8,1,0;", 0, Checks.NONE);
        blueIs("m0,8,1,0;m8,7,1,0;", 1, 15);
        blueIs("m1,8,1,0;m9,7,1,0;", 1, 0);
        blueIs("m2,2,1,0;m6,2,1,0;m10,2,1,0;m14,2,1,0;", 2, 0);
        blueIs("m1,2,1,0;m5,2,1,0;m9,2,1,0;m13,2,1,0;", 2, 3);
        blueIs("m0,2,1,0;m4,2,1,0;m8,2,1,0;m12,2,1,0;", 2, 2);
        blueIs("m3,1,1,0;m10,1,1,0;", 8, 11);
        blueIs("m3,1,1,0;m12,1,1,0;", 8, 4);
        blueIs("m3,1,1,0;m11,1,1,0;", 7, 4);
    }

    private static void blueIs(String clouds, int many, int from) {
        SignedClouds x = c.under("w0,1;" + clouds);
        c.due("blue of " + clouds, x.blue(0), many);
        c.due("from, of " + clouds, x.blue(1), from);
    }

    /** "TOW for told FIELDS (bits) ...: the fewest FIELDS, all together, that CLOUDS are towed on now (0 to 3 each". */
    private static void towReach() {
        for (int place = 0; place < 16; place++) {
            SignedClouds x = c.under("w0,1;f" + place + ",1,60,0;");
            for (int far = 0; far < 16; far++) {
                int field = 1 << (place + far) % 16;
                c.due("tow " + far, x.leastTow(field, 1, -1), far <= 3 ? far : Checks.NONE);
                c.due("how far " + far, x.leastTow(field, 24, 0), far <= 3 ? far : Checks.NONE);
            }
            c.due("none is told", x.leastTow(0, 1, -1), 0);
            c.due("none is told, how far", x.leastTow(0, 24, 0), 0);
            c.due("all are told", x.leastTow(ALL, 24, -1), Checks.NONE);
        }
        SignedClouds all = c.under("w0,1;f0,8,60,0;f8,8,60,1;");
        c.due("all are wet", all.leastTow(ALL, 1, -1), 0);
        c.due("nothing changed", all.cloud(0, 0), 0);
        SignedClouds near = c.under("w0,1;f1,8,60,0;f6,8,60,1;");
        c.due("all but 0, 14, 15 are", near.leastTow(ALL - 1 - 16384 - 32768, 1, -1), 0);
        c.due("14, too", near.leastTow(ALL - 1 - 32768, 1, 1), 1);
        c.due("15, too", near.leastTow(ALL - 1, 1, 1), 2);
        c.due("0, too", near.leastTow(ALL, 1, -1), 3);
    }

    /** "and n DAYS (1 to 24)": what falls in them counts, on the first and on the last. */
    private static void towDays() {
        SignedClouds x = c.under("w1,1;c0,1,60,0;");
        c.due("16 DAYS", x.leastTow(1, 16, -1), 0);
        c.due("15 DAYS", x.leastTow(1, 15, -1), 1);
        c.due("14 DAYS", x.leastTow(1, 14, -1), 2);
        c.due("13 DAYS", x.leastTow(1, 13, -1), 3);
        c.due("12 DAYS", x.leastTow(1, 12, -1), Checks.NONE);
        c.due("1 DAY", x.leastTow(2, 1, -1), 0);
        c.due("all in 16 DAYS", x.leastTow(ALL, 16, -1), 0);
        c.due("all in 15 DAYS", x.leastTow(ALL, 15, -1), Checks.NONE);
        SignedClouds bank = c.under("w0,1;b0,1,60,0;");
        c.due("DAY 0", bank.leastTow(1, 1, -1), Checks.NONE);
        c.due("DAYS 0 and 1", bank.leastTow(1, 2, -1), 0);
        c.due("its last", c.under("w1,1;c0,1,15,0;").leastTow(1 << 15, 24, -1), 0);
        c.due("not any more", c.under("w1,1;c0,1,15,0;").leastTow(1, 24, -1), 1);
    }

    /** "0 if it is GONE". */
    private static void towGone() {
        SignedClouds x = c.under("w0,1;f4,1,1,0;f3,1,9,0;f2,1,1,0;");
        x.days(1);
        c.due("how many", x.leastTow(1 << 5, 1, -1), 2);
        c.due("the GONE one", x.leastTow(1 << 5, 1, 0), 0);
        c.due("the one that is towed", x.leastTow(1 << 5, 1, 1), 2);
        c.due("the other GONE one", x.leastTow(1 << 5, 1, 2), 0);
        c.due("out of reach", x.leastTow(1 << 7, 1, -1), Checks.NONE);
        c.due("out of reach, how far", x.leastTow(1 << 7, 1, 0), Checks.NONE);
        x.days(8);
        c.due("all are GONE", x.count(2), 0);
        c.due("nothing is told", x.leastTow(0, 24, -1), 0);
        c.due("nothing is told, how far", x.leastTow(0, 24, 2), 0);
        c.due("nothing falls", x.leastTow(1 << 3, 24, -1), Checks.NONE);
    }

    /** "how far the k-th one, in the first such way (by numbers)". */
    private static void towFirstWay() {
        towIs("f0,1,9,0;f0,1,9,0;", 2, 1, 0, 1);
        towIs("f0,1,9,0;f0,1,9,0;", 1 + 8, 3, 0, 3);
        towIs("f0,1,9,0;f0,1,9,0;", 2 + 8, 4, 1, 3);
        towIs("f0,1,9,0;f1,1,9,0;", 4, 1, 0, 1);
        towIs("f1,1,9,0;f0,1,9,0;", 4, 1, 1, 0);
        towIs("f0,1,9,0;f1,1,9,0;f2,1,9,0;", 2 + 4 + 8, 3, 1, 1, 1);
        towIs("f2,1,9,0;f1,1,9,0;f0,1,9,0;", 2 + 4 + 8, 3, 0, 0, 3);
        towIs("f0,1,9,0;f4,1,9,0;f8,1,9,0;f12,1,9,0;m12,1,9,0;", 8 + 128 + 2048 + 32768, 12, 3, 3, 3, 3, 0);
        towIs("f0,1,9,0;f0,1,9,0;f0,1,9,0;f0,1,9,0;f0,1,9,0;", 2 + 4 + 8, 6, 0, 0, 1, 2, 3);
        towIs("f0,1,9,0;f3,1,9,0;f6,1,9,0;f9,1,9,0;f12,1,9,0;", 8 + 64 + 512 + 4096 + 32768, 15, 3, 3, 3, 3, 3);
    }

    private static void towIs(String clouds, int fields, int... due) {
        SignedClouds x = c.under("w0,1;" + clouds);
        for (int k = -1; k < due.length - 1; k++) {
            c.due("tow of " + clouds + " for " + fields + ", k = " + k, x.leastTow(fields, 1, k), due[k + 1]);
        }
        c.due("no such CLOUD", x.leastTow(fields, 1, due.length - 1), Checks.BAD);
    }

    /** "HARVEST of a FIELD, m DAYS (1 to 9) long: behind how many DAYS (0 to 30) first ...; NONE." */
    private static void harvest() {
        for (int m = 1; m <= 9; m++) {
            for (int wet = 1; wet <= 60; wet++) {
                SignedClouds x = c.under("w0,1;f7,1," + wet + ",0;");
                c.due("harvest, WET " + wet, x.harvest(7, m), wet <= 30 ? wet : Checks.NONE);
                c.due("beside it", x.harvest(8, m), 0);
            }
        }
        // a cumulus comes by on DAYS 3, 19, 35: fifteen DAYS between
        SignedClouds x = c.under("w1,1;c0,1,60,0;");
        c.due("2 DAYS ahead of it", x.harvest(3, 2), 0);
        c.due("3 DAYS behind it", x.harvest(3, 3), 3);
        c.due("9 DAYS behind it", x.harvest(3, 9), 3);
        SignedClouds twice = c.under("w8,1;c0,1,60,0;");
        c.due("each other DAY", twice.harvest(0, 1), 0);
        c.due("never 2 DAYS", twice.harvest(0, 2), Checks.NONE);
        twice.days(1);
        c.due("behind one DAY", twice.harvest(0, 1), 1);
    }

    /** All m DAYS count, up to the 39th from now on, for a harvest behind 30. */
    private static void harvestLastDay() {
        SignedClouds x = c.under("w1,1;f7,1,30,0;c0,1,60,0;");
        // the cumulus comes by as DAY 7, 23, 39 from now on
        c.due("behind 30, 8 long", x.harvest(7, 8), 30);
        c.due("behind 30, 9 long", x.harvest(7, 9), Checks.NONE);
        SignedClouds y = c.under("w1,1;f7,1,29,0;c0,1,60,0;");
        c.due("behind 29, 9 long", y.harvest(7, 9), 29);
    }

    /** "a row tells how much falls on a FIELD in each of n DAYS (1 to 12) from now on. KINDS of a CLOUD". */
    private static void who() {
        SignedClouds x = c.under("w0,1;f0,1,60,0;f0,1,12,0;");
        c.tell(x, 0, 0, 2, 2, 2, 2, 2, 2, 2, 2, 2, 2, 2, 2, 1, 1);
        // FIELD 0 under no WIND: a cumulus rains as a fog does
        for (int n = 1; n <= 12; n++) {
            c.due("who " + n, x.who(0, 0, 0, 0, n), 2 + 16);
        }
        c.due("one DAY on", x.who(0, 0, 0, 1, 11), 2 + 16);
        c.due("the last is another", x.who(0, 0, 0, 1, 12), 0);
        x.days(1);
        c.due("the last DAY of the other", x.who(0, 0, 0, 1, 11), 2 + 16);
        c.due("and one behind it", x.who(0, 0, 0, 1, 12), 2 + 16);
        x.set(0, 12, 2);
        c.due("too much on the last", x.who(0, 0, 0, 1, 12), 0);
        x.set(0, 12, 0);
        c.due("too little on the last", x.who(0, 0, 0, 1, 12), 0);
        x.set(0, 12, 1);
        x.set(0, 1, 1);
        // the anvil has gone on, a mackerel rains nothing, a bank not in each DAY
        c.due("too little on the first", x.who(0, 0, 0, 1, 12), 0);
        c.due("its KIND stays", x.kind(0), 4);
        c.due("DAY stays", x.count(3), 1);
    }

    /** "PLACES of it (FIELDS, bits) by which it is so." */
    private static void places() {
        for (int wide = 1; wide <= 8; wide++) {
            for (int field = 0; field < 16; field++) {
                SignedClouds x = c.under("w0,1;m0,8,60,0;f3," + wide + ",60,0;");
                c.tell(x, 0, 2, 1, 0);
                int due = 0;
                for (int k = 0; k < wide; k++) {
                    due |= 1 << (field - k + 16) % 16;
                }
                c.due("places of rain", x.places(1, field, 0, 0, 1), due);
                c.due("places of none", x.places(1, field, 0, 1, 1), ALL - due);
                c.due("places of one that rains nothing", x.places(0, field, 0, 1, 1), (due & 1 << 3) == 0 ? ALL : 0);
                c.due("its PLACE stays", x.cloud(1, 0), 3);
            }
        }
        SignedClouds x = c.under("w1,1;c0,1,60,0;");
        c.tell(x, 7, 0, 0, 0, 0, 0, 0, 0, 0, 0, 0, 0, 0, 1);
        c.due("it comes on the twelfth DAY", x.places(0, 12, 7, 0, 12), 1);
        c.due("or does not in eleven", x.places(0, 12, 7, 0, 11), 1 + (15 << 12));
    }

    /** "FROM: PLACE it had n DAYS (0 to 60) ago, had it gone on as it does, by WIND as it is." */
    private static void from() {
        for (int wind = 0; wind < 16; wind++) {
            SignedClouds x = c.under("w" + wind + ",1;c3,1,60,0;a3,1,60,0;m3,1,60,0;f3,1,60,0;b3,1,60,0;");
            int[] on = {wind, wind + 1, wind, 0, 0};
            for (int n = 0; n <= 60; n += n == 0 || n == 59 ? 1 : 29) {
                for (int one = 0; one < 5; one++) {
                    c.due("from", x.from(one, n), Math.floorMod(3 - n * on[one], 16));
                }
            }
            x.days(1);
            x.wind(15 - wind);
            c.due("by WIND as it is", x.from(0, 60), Math.floorMod(3 + wind - 60 * (15 - wind), 16));
        }
    }

    /** "ALIKE: pairs of CLOUDS of unlike HANDS, of like KIND and WIDE, neither GONE: how many; the first". */
    private static void alike() {
        SignedClouds x = c.under("w0,1;f0,2,9,0;f0,2,9,1;f0,2,9,2;f0,2,9,3;f0,2,9,4;");
        c.due("all", x.alike(0), 10);
        c.due("the first", x.alike(1), 1);
        alikeIs("f0,2,9,0;f0,2,9,0;", 0, Checks.NONE);
        alikeIs("f0,2,9,0;f0,3,9,1;", 0, Checks.NONE);
        alikeIs("f0,2,9,0;b0,2,9,1;", 0, Checks.NONE);
        alikeIs("c0,2,9,0;a0,2,9,1;m0,2,9,2;f0,2,9,3;b0,2,9,4;", 0, Checks.NONE);
        alikeIs("f0,2,9,0;", 0, Checks.NONE);
        alikeIs("c0,1,9,0;a0,1,9,0;m0,1,9,0;f0,1,9,0;f9,1,1,9;", 1, 34);
        alikeIs("f0,1,9,0;a0,1,9,0;m0,1,9,0;c0,1,9,0;f9,1,1,9;", 1, 4);
        alikeIs("c0,1,9,0;f0,1,9,0;f0,1,9,0;c0,1,9,0;f9,1,1,9;", 2, 14);
        alikeIs("c0,1,9,0;f0,2,9,0;f0,2,9,1;", 1, 12);
        alikeIs("c0,2,9,0;f0,1,9,0;f0,2,9,1;", 0, Checks.NONE);
        alikeIs("c0,2,9,0;f0,2,9,0;f0,1,9,1;", 0, Checks.NONE);
        SignedClouds y = c.under("w0,1;f0,2,9,0;f0,2,1,1;f0,2,9,2;");
        c.due("three pairs", y.alike(0), 3);
        y.days(1);
        c.due("one is GONE", y.alike(0), 1);
        c.due("the first then", y.alike(1), 2);
    }

    private static void alikeIs(String clouds, int pairs, int first) {
        SignedClouds x = c.under("w0,1;" + clouds);
        c.due("alike, " + clouds, x.alike(0), pairs);
        c.due("the first, " + clouds, x.alike(1), first);
    }

    /** "LIKENESS of two CLOUDS: 100 less 20, if KINDS are unlike, less 5 times ..., less ..., 0 at least." */
    private static void likeness() {
        likenessIs("f0,2,9,0;f5,2,9,1;", 100);
        likenessIs("f0,2,9,0;b5,2,9,1;", 80);
        likenessIs("f0,1,9,0;f5,8,9,1;", 65);
        likenessIs("f0,1,1,0;f5,8,60,1;", 6);
        likenessIs("m0,1,1,0;a5,8,46,1;", 0);
        likenessIs("m0,1,1,0;a5,8,45,1;", 1);
        likenessIs("m0,1,1,0;a5,8,47,1;", 0);
        likenessIs("m0,1,1,0;a5,8,60,1;", 0);
        SignedClouds x = lasting("w0,13;m0,1,60,0;c3,8,1,1;");
        x.days(24);
        x.days(4);
        c.due("WET of the one", x.cloud(0, 2), 71);
        c.due("the other is GONE", x.cloud(1, 2), 0);
        c.due("GONE, too", x.likeness(0, 1), 0);
    }

    private static void likenessIs(String clouds, int due) {
        SignedClouds x = c.under("w0,1;" + clouds);
        c.due("likeness of " + clouds, x.likeness(0, 1), due);
        c.due("the other way round " + clouds, x.likeness(1, 0), due);
    }

    /** "ESTATE of a HAND: how much is WET, of all that is his, that is not GONE." */
    private static void estate() {
        SignedClouds x = c.under("w0,13;m0,1,60,9;m0,1,59,9;m0,1,58,9;m0,1,57,0;m0,1,1,9;");
        c.due("of 9", x.estate(9), 60 + 59 + 58 + 1);
        c.due("of 0", x.estate(0), 57);
        c.due("of 1", x.estate(1), 0);
        x.days(1);
        c.due("one is GONE", x.estate(9), 59 + 58 + 57);
        x.sign(3, 9);
        c.due("signed anew", x.estate(9), 59 + 58 + 57 + 56);
        c.due("not his any more", x.estate(0), 0);
    }

    /** "that k (0 to 5) are, or more: a fraction", in lowest terms, 0 is 0 by 1. */
    private static void seen() {
        SignedClouds x = c.under("w0,1;m0,1,5,0;m0,1,4,0;m0,1,3,0;m0,1,2,0;m0,1,1,0;");
        for (int many = 5; many >= 0; many--) {
            c.due("so many", Integer.bitCount(x.count(2)), many);
            for (int k = 0; k <= 5; k++) {
                // not each p, so that an object has 512 calls at most; seenOfFewer() has them all
                for (int p = 0; p <= 10; p += k == 0 ? 10 : 5) {
                    seenIs(x, many, k, p);
                }
            }
            if (many > 0) {
                x.days(1);
            }
        }
    }

    private static void seenIs(SignedClouds x, int many, int k, int p) {
        long cases = 0;
        long all = 1;
        for (int n = 0; n < many; n++) {
            all *= 10;
        }
        for (int set = 0; set < 1 << many; set++) {
            long these = 1;
            for (int n = 0; n < many; n++) {
                these *= (set >> n & 1) != 0 ? p : 10 - p;
            }
            cases += Integer.bitCount(set) >= k ? these : 0;
        }
        long common = java.math.BigInteger.valueOf(cases).gcd(java.math.BigInteger.valueOf(all)).longValue();
        String told = k + " of " + many + " by " + p;
        c.due(told + ", above", x.seen(k, p, 0), cases / common);
        c.due(told + ", below", x.seen(k, p, 1), all / common);
    }

    /** All p from 0 to 10 and all k, of 5, 3 and 1 CLOUDS. */
    private static void seenOfFewer() {
        for (int many = 1; many <= 5; many += 2) {
            SignedClouds x = c.under("w0,1;" + "m0,1,5,0;".repeat(many));
            for (int k = 0; k <= 5; k++) {
                for (int p = 0; p <= 10; p++) {
                    seenIs(x, many, k, p);
                }
            }
        }
    }

    /** "YEARS of n DAYS (0 to 60) by a SEED (X at first)": told by the document's own rule, step by step. */
    private static void drawn() {
        for (int seed : new int[] {1, 2, 8, 9, 10, 123, 777777, 999998, 999999}) {
            SignedClouds x = c.under("w4,9;c0,3,60,0;");
            for (int n = 0; n <= 60; n += n < 3 || n > 57 ? 1 : 11) {
                long draw = seed;
                int wet = 60;
                int fell = 0;
                for (int day = 0; day < n; day++) {
                    draw = draw * 16807 % 2147483647L;
                    wet = draw % 9 == 0 ? Math.min(wet + 9, 99) : wet;
                    boolean rains = wet >= 3;
                    fell += rains ? 3 : 0;
                    wet -= rains ? 3 : wet > 0 ? 1 : 0;
                }
                c.due("how much, " + n + " DAYS from " + seed, x.drawn(n, seed, 0), fell);
                c.due("CLOUDS, " + n + " DAYS from " + seed, x.drawn(n, seed, 1), wet > 0 ? 1 : 0);
            }
            c.due("WIND stays", x.count(4), 4);
            c.due("WET stays", x.cloud(0, 2), 60);
            c.due("DAY stays", x.count(3), 0);
            c.due("nothing fell", x.count(5), 0);
        }
    }

    /** "restored (WET 99 at most)": where silk() is FULL, a draw stops at 99; GONE ones, too; what fell before is not counted. */
    private static void drawnSilk() {
        // from seed 9 on, X is 151263: by 9 leaves 0, by 2 leaves 1; its WIND is 15
        SignedClouds x = c.under("w0,20;m0,1,60,0;f0,8,1,0;");
        c.due("the second is restored", x.drawn(1, 9, 0), 8);
        x.days(1);
        c.due("a GONE one is", x.drawn(1, 9, 0), 8);
        c.due("and is there", x.drawn(1, 9, 1), 3);
        c.due("not without it", x.drawn(1, 1, 1), 1);
        // 99 and 20 are 99: of 12 DAYS of NEED 8, and 3 of 1, none is won
        SignedClouds full = c.under("w0,20;f0,8,59,0;");
        full.silk(0);
        full.silk(0);
        int restored = 0;
        long draw = 9;
        for (int day = 0; day < 12; day++) {
            draw = draw * 16807 % 2147483647L;
            restored += day > 0 && draw % 9 == 0 ? 1 : 0;
        }
        c.due("how many more", restored, 1);
        c.due("12 DAYS", full.drawn(12, 9, 0), 96);
        c.due("12 DAYS, there", full.drawn(12, 9, 1), 1);
        full.days(1);
        c.due("what fell before", full.drawn(0, 9, 0), 0);
    }
}
