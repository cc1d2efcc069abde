/** Signed clouds over a ring of sixteen fields: told in a text, driven day by day, foretold and asked. */
public final class SignedClouds {
    public static final int NONE = -1000000, BAD = -1000001, STATE = -1000002, FULL = -1000003;

    private static final int FOUND = -1000010, FAULTY = -1000100;
    private static final int NULL_FOUND = 1, PLACE_FOUND = 2, KIND_FOUND = 3, SIZE_FOUND = 4, STORE_FOUND = 5;

    private static final int FIELDS = 16, ALL_FIELDS = 65535, LAST_FIELD = 15;
    private static final int MOST_CLOUDS = 5, MOST_WIDE = 8, MOST_WET = 99, LAST_HAND = 9;
    private static final int LAST_WIND = 15, LAST_DAY = 999, MOST_DAYS = 24, FARTHEST = 60;
    private static final int MOST_TOLD_DAYS = 12, LAST_HARVEST = 30, LONGEST_HARVEST = 9;
    private static final int LAST_SEED = 999999, LAST_IMAGE = 1;

    private static final int CLOUD = 0, CUMULUS = 1, ANVIL = 2, MACKEREL = 3, FOG = 4, BANK = 5;
    /** What each KIND is nearest to; -1 above them all. */
    private static final int[] NEAREST = {-1, CLOUD, CUMULUS, CUMULUS, CLOUD, FOG};

    private final Rows rows = new Rows();
    private final Tape tape = new Tape();
    private final Reader reader = new Reader(tape);
    private final Sky now = new Sky();
    private final Acts acts = new Acts(now);
    private final Sky[] images = new Sky[LAST_IMAGE + 1];
    private final Foreteller foreteller = new Foreteller(now, rows);
    private final Towing towing = new Towing(now);
    private final Chances chances = new Chances();
    private final Asks asks = new Asks(now);
    private int latestFault;
    private int finding;

    public SignedClouds() {
        for (int k = 0; k <= LAST_IMAGE; k++) {
            images[k] = new Sky();
        }
    }

    // ---- rows

    public int row(int row, int lane, int n) {
        if (!Rows.isRow(row) || !within(lane, 0, Rows.LAST_LANE) || n > Rows.MOST_ITEMS) {
            return BAD;
        }
        if (n < 0) {
            return found(SIZE_FOUND);
        }
        rows.make(row, lane, n);
        return fine(n);
    }

    public int set(int row, int i, int v) {
        if (!Rows.isRow(row)) {
            return BAD;
        }
        if (rows.isMissing(row)) {
            return found(NULL_FOUND);
        }
        if (!rows.reaches(row, i, 1)) {
            return found(PLACE_FOUND);
        }
        return fine(rows.put(row, i, v));
    }

    public int copy(int a, int i, int b, int j, int n) {
        if (!Rows.isRow(a) || !Rows.isRow(b)) {
            return BAD;
        }
        if (rows.isMissing(a) || rows.isMissing(b)) {
            return found(NULL_FOUND);
        }
        if (rows.lane[a] != rows.lane[b]) {
            return found(STORE_FOUND);
        }
        if (!rows.reaches(a, i, n) || !rows.reaches(b, j, n)) {
            return found(PLACE_FOUND);
        }
        rows.move(a, i, b, j, n);
        return fine(n);
    }

    public int drop(int row) {
        if (!Rows.isRow(row)) {
            return BAD;
        }
        if (rows.isMissing(row)) {
            return found(NULL_FOUND);
        }
        return fine(rows.lose(row));
    }

    // ---- what is told

    public int feed(int letter) {
        if (!within(letter, 0, 255)) {
            return BAD;
        }
        return tape.isFull() ? FULL : tape.add(letter);
    }

    public int sky() {
        int fault = reader.read();
        int place = reader.at;
        tape.length = 0;
        if (fault != 0) {
            latestFault = fault;
            return FAULTY - place;
        }
        now.become(reader.draft);
        acts.forgetAll();
        return now.number;
    }

    public int fault() {
        return latestFault;
    }

    public int undo() {
        if (acts.kept == 0) {
            return STATE;
        }
        acts.takeBack();
        return acts.kept;
    }

    // ---- what is done

    public int days(int n) {
        if (noSky()) {
            return STATE;
        }
        if (!within(n, 1, MOST_DAYS)) {
            return BAD;
        }
        if (now.day + n > LAST_DAY) {
            return FULL;
        }
        int all = 0;
        for (int d = 0; d < n; d++) {
            acts.keep();
            all += now.passDay();
        }
        return all;
    }

    public int wind(int n) {
        if (noSky()) {
            return STATE;
        }
        if (!within(n, 0, LAST_WIND)) {
            return BAD;
        }
        int was = now.wind;
        acts.keep();
        now.wind = n;
        return was;
    }

    public int tow(int cloud, int n) {
        if (!isCloud(cloud) || !within(n, 1, LAST_FIELD)) {
            return BAD;
        }
        if (now.isGone(cloud)) {
            return STATE;
        }
        acts.keep();
        now.place[cloud] = ring(now.place[cloud] + n);
        return now.place[cloud];
    }

    public int silk(int cloud) {
        if (!isCloud(cloud)) {
            return BAD;
        }
        if (now.wet[cloud] + now.silk > MOST_WET) {
            return FULL;
        }
        acts.keep();
        now.mend(cloud);
        return now.wet[cloud];
    }

    public int sign(int cloud, int hand) {
        if (!isCloud(cloud) || !within(hand, 0, LAST_HAND)) {
            return BAD;
        }
        int was = now.hand[cloud];
        acts.keep();
        now.hand[cloud] = hand;
        return was;
    }

    public int cloud(int cloud, int what) {
        if (!isCloud(cloud)) {
            return BAD;
        }
        switch (what) {
            case 0:
                return now.place[cloud];
            case 1:
                return now.wide[cloud];
            case 2:
                return now.wet[cloud];
            case 3:
                return now.hand[cloud];
            case 4:
                return now.shade(cloud);
            case 5:
                return now.need(cloud);
            default:
                return BAD;
        }
    }

    public int field(int field, int what) {
        if (noSky()) {
            return STATE;
        }
        if (!isField(field) || !isZeroOrOne(what)) {
            return BAD;
        }
        return what == 0 ? now.fell[field] : now.cloudsOver(field);
    }

    // ---- foretold

    public int ahead(int cloud, int n, int what) {
        if (!isCloud(cloud) || !within(n, 0, FARTHEST) || !isZeroOrOne(what)) {
            return BAD;
        }
        Sky then = foreteller.behind(n);
        if (then.isGone(cloud)) {
            return NONE;
        }
        return what == 0 ? then.place[cloud] : then.wide[cloud];
    }

    public int over(int field, int n) {
        if (noSky()) {
            return STATE;
        }
        if (!isField(field) || !within(n, 0, FARTHEST)) {
            return BAD;
        }
        return foreteller.behind(n).cloudsOver(field);
    }

    public int falls(int field, int n) {
        if (noSky()) {
            return STATE;
        }
        if (!isField(field) || !within(n, 0, FARTHEST)) {
            return BAD;
        }
        return foreteller.behind(n).fell[field];
    }

    public int dry(int n) {
        if (noSky()) {
            return STATE;
        }
        if (!within(n, 0, FARTHEST)) {
            return BAD;
        }
        return foreteller.behind(n).fieldsWithoutRain();
    }

    public int first(int field) {
        if (noSky()) {
            return STATE;
        }
        return isField(field) ? foreteller.firstRain(field) : BAD;
    }

    public int gone(int cloud) {
        return isCloud(cloud) ? foreteller.firstGone(cloud) : BAD;
    }

    public int storm(int cloud, int other) {
        return areTwoClouds(cloud, other) ? foreteller.firstMeeting(cloud, other) : BAD;
    }

    public int blue(int what) {
        if (noSky()) {
            return STATE;
        }
        if (!isZeroOrOne(what)) {
            return BAD;
        }
        int shaded = now.shaded();
        int most = 0;
        int from = NONE;
        for (int f = 0; f < FIELDS; f++) {
            int many = blueFrom(f, shaded);
            if (many > most) {
                most = many;
                from = f;
            }
        }
        return what == 0 ? most : from;
    }

    public int leastTow(int fields, int n, int k) {
        if (noSky()) {
            return STATE;
        }
        if (!within(n, 1, MOST_DAYS) || !within(fields, 0, ALL_FIELDS) || !within(k, -1, now.number - 1)) {
            return BAD;
        }
        if (!towing.find(fields, n)) {
            return NONE;
        }
        return k < 0 ? towing.least : towing.best[k];
    }

    public int harvest(int field, int m) {
        if (noSky()) {
            return STATE;
        }
        if (!isField(field) || !within(m, 1, LONGEST_HARVEST)) {
            return BAD;
        }
        return foreteller.firstDrySpell(field, m);
    }

    public int who(int cloud, int field, int row, int i, int n) {
        int refusal = refusalOfRain(cloud, field, row, i, n);
        if (refusal != 0) {
            return refusal;
        }
        return fine(foreteller.kindsThatFit(cloud, field, row, i, n));
    }

    public int places(int cloud, int field, int row, int i, int n) {
        int refusal = refusalOfRain(cloud, field, row, i, n);
        if (refusal != 0) {
            return refusal;
        }
        if (now.isGone(cloud)) {
            return STATE;
        }
        return fine(foreteller.placesThatFit(cloud, field, row, i, n));
    }

    public int from(int cloud, int n) {
        if (!isCloud(cloud) || !within(n, 0, FARTHEST)) {
            return BAD;
        }
        if (now.isGone(cloud)) {
            return STATE;
        }
        return ring(now.place[cloud] - n * now.speed(cloud));
    }

    public int alike(int what) {
        if (noSky()) {
            return STATE;
        }
        if (!isZeroOrOne(what)) {
            return BAD;
        }
        return what == 0 ? now.alikePairs() : now.firstAlikePair();
    }

    public int likeness(int cloud, int other) {
        if (!areTwoClouds(cloud, other)) {
            return BAD;
        }
        int like = now.kind[cloud] == now.kind[other] ? 100 : 80;
        like -= 5 * Math.abs(now.wide[cloud] - now.wide[other]);
        like -= Math.abs(now.wet[cloud] - now.wet[other]);
        return Math.max(like, 0);
    }

    public int estate(int hand) {
        if (noSky()) {
            return STATE;
        }
        return within(hand, 0, LAST_HAND) ? now.wetOf(hand) : BAD;
    }

    public long seen(int k, int p, int what) {
        if (noSky()) {
            return STATE;
        }
        if (!within(k, 0, MOST_CLOUDS) || !within(p, 0, 10) || !isZeroOrOne(what)) {
            return BAD;
        }
        chances.weigh(Integer.bitCount(now.alive()), k, p);
        return what == 0 ? chances.above : chances.below;
    }

    public int drawn(int n, int seed, int what) {
        if (noSky()) {
            return STATE;
        }
        if (!within(n, 0, FARTHEST) || !within(seed, 1, LAST_SEED) || !isZeroOrOne(what)) {
            return BAD;
        }
        Sky then = foreteller.behindDraws(n, seed);
        return what == 0 ? then.fallen() : then.alive();
    }

    public int image(int k) {
        if (!within(k, 0, LAST_IMAGE)) {
            return BAD;
        }
        if (noSky()) {
            return STATE;
        }
        images[k].become(now);
        return 1;
    }

    public int restore(int k) {
        if (!within(k, 0, LAST_IMAGE)) {
            return BAD;
        }
        if (images[k].number == 0) {
            return STATE;
        }
        now.become(images[k]);
        acts.forgetAll();
        return 1;
    }

    // ---- asked

    public int kind(int one) {
        return isCloud(one) ? now.kind[one] : BAD;
    }

    public int as(int one, int kind) {
        if (!isCloud(one) || !within(kind, CLOUD, BANK)) {
            return BAD;
        }
        return isOfKind(now.kind[one], kind) ? fine(one) : found(KIND_FOUND);
    }

    public int ask(int one, int what) {
        if (!isCloud(one) || !isZeroOrOne(what)) {
            return BAD;
        }
        return asks.begin(one, what);
    }

    public int trace(int i) {
        return within(i, 0, asks.traced - 1) ? asks.numbers[i] : NONE;
    }

    public int count(int what) {
        switch (what) {
            case 0:
                return rows.present();
            case 1:
                return now.number;
            case 2:
                return now.alive();
            case 3:
                return now.day;
            case 4:
                return now.wind;
            case 5:
                return now.fallen();
            case 6:
                return acts.kept;
            case 7:
                return tape.length;
            default:
                return BAD;
        }
    }

    public int status() {
        return finding;
    }

    // ---- what the calls share

    private int found(int number) {
        finding = number;
        return FOUND - number;
    }

    private int fine(int answer) {
        finding = 0;
        return answer;
    }

    /** A SKY that was read has a CLOUD at least. */
    private boolean noSky() {
        return now.number == 0;
    }

    private boolean isCloud(int cloud) {
        return within(cloud, 0, now.number - 1);
    }

    private boolean areTwoClouds(int cloud, int other) {
        return isCloud(cloud) && isCloud(other) && cloud != other;
    }

    /** What refuses a call that tells by a ROW how much falls on a FIELD; 0 if nothing does. */
    private int refusalOfRain(int cloud, int field, int row, int i, int n) {
        if (!isCloud(cloud) || !isField(field) || !Rows.isRow(row) || !within(n, 1, MOST_TOLD_DAYS)) {
            return BAD;
        }
        if (rows.isMissing(row)) {
            return found(NULL_FOUND);
        }
        return rows.reaches(row, i, n) ? 0 : found(PLACE_FOUND);
    }

    private static boolean isField(int field) {
        return within(field, 0, LAST_FIELD);
    }

    private static boolean isZeroOrOne(int what) {
        return what == 0 || what == 1;
    }

    private static boolean within(int n, int least, int most) {
        return n >= least && n <= most;
    }

    /** FIELD 0 lies behind 15, and below 0 it goes on alike. */
    private static int ring(int place) {
        return place & LAST_FIELD;
    }

    /** The FIELDS (bits), each n on (0 to 15) in the ring. */
    private static int turned(int fields, int n) {
        return (fields << n | fields >>> (FIELDS - n)) & ALL_FIELDS;
    }

    /** How many FIELDS from one on, side by side in the ring, are not shaded. */
    private static int blueFrom(int field, int shaded) {
        int many = 0;
        while (many < FIELDS && (shaded >> ring(field + many) & 1) == 0) {
            many++;
        }
        return many;
    }

    private static boolean isOfKind(int kind, int wanted) {
        int at = kind;
        for (int step = 0; step <= BANK && at >= CLOUD && at <= BANK; step++) {
            if (at == wanted) {
                return true;
            }
            at = NEAREST[at];
        }
        return false;
    }

    /** ROWS 0 to 7; their ITEMS are kept as ints, narrowed to the LANE as they are put. */
    private static final class Rows {
        static final int ROWS = 8, MOST_ITEMS = 40, LAST_LANE = 2;
        private static final int MISSING = -1, BYTES = 0, SHORTS = 1;

        final int[] lane = new int[ROWS];
        private final int[] size = new int[ROWS];
        private final int[][] items = new int[ROWS][MOST_ITEMS];

        Rows() {
            for (int row = 0; row < ROWS; row++) {
                lane[row] = MISSING;
            }
        }

        static boolean isRow(int row) {
            return row >= 0 && row < ROWS;
        }

        boolean isMissing(int row) {
            return lane[row] == MISSING;
        }

        /** Is there each of n ITEMS from i on? */
        boolean reaches(int row, int i, int n) {
            return i >= 0 && n >= 0 && i <= size[row] && n <= size[row] - i;
        }

        void make(int row, int newLane, int n) {
            lane[row] = newLane;
            size[row] = n;
            for (int i = 0; i < MOST_ITEMS; i++) {
                items[row][i] = 0;
            }
        }

        int put(int row, int i, int v) {
            items[row][i] = narrowed(lane[row], v);
            return items[row][i];
        }

        int item(int row, int i) {
            return items[row][i];
        }

        void move(int a, int i, int b, int j, int n) {
            System.arraycopy(items[a], i, items[b], j, n);
        }

        int lose(int row) {
            lane[row] = MISSING;
            return size[row];
        }

        int present() {
            int there = 0;
            for (int row = 0; row < ROWS; row++) {
                if (lane[row] != MISSING) {
                    there++;
                }
            }
            return there;
        }

        private static int narrowed(int lane, int v) {
            if (lane == BYTES) {
                return (byte) v;
            }
            return lane == SHORTS ? (short) v : v;
        }
    }

    /** The bytes that came, up to when they are read. */
    private static final class Tape {
        private static final int MOST_BYTES = 100;

        private final int[] letters = new int[MOST_BYTES];
        int length;

        boolean isFull() {
            return length >= MOST_BYTES;
        }

        int add(int letter) {
            letters[length] = letter;
            length++;
            return length;
        }

        /** The byte at a place; -1, which is none, at the end. */
        int letter(int at) {
            return at >= 0 && at < length ? letters[at] : -1;
        }
    }

    /** Reads the tape into a draft; it stands still at the first FAULT. */
    private static final class Reader {
        private static final int MISPLACED = 1, NOT_AS_TOLD = 2, NO_ROOM = 3;

        final Sky draft = new Sky();
        int at;
        private final Tape tape;
        private int fault;

        Reader(Tape tape) {
            this.tape = tape;
        }

        /** The number of the FAULT, whose place is at; 0 if there is none. */
        int read() {
            at = 0;
            fault = 0;
            draft.number = 0;
            readLaw();
            readCloud(0);
            for (int cloud = 1; cloud <= MOST_CLOUDS && fault == 0 && at < tape.length; cloud++) {
                readCloud(cloud);
            }
            return fault;
        }

        private void readLaw() {
            take('w');
            draft.wind = takeNumber(0, LAST_WIND);
            take(',');
            draft.silk = takeNumber(1, 20);
            take(';');
        }

        private void readCloud(int cloud) {
            int kind = takeSort(cloud);
            int place = takeNumber(0, LAST_FIELD);
            take(',');
            int wide = takeNumber(1, MOST_WIDE);
            take(',');
            int wet = takeNumber(1, 60);
            take(',');
            int hand = takeNumber(0, LAST_HAND);
            take(';');
            if (fault == 0) {
                draft.addCloud(kind, place, wide, wet, hand);
            }
        }

        private int takeSort(int cloud) {
            if (fault != 0) {
                return CLOUD;
            }
            int kind = kindOf(tape.letter(at));
            if (kind == CLOUD) {
                fault = MISPLACED;
            } else if (cloud >= MOST_CLOUDS) {
                fault = NO_ROOM;
            } else {
                at++;
            }
            return kind;
        }

        private void take(int letter) {
            if (fault != 0) {
                return;
            }
            if (tape.letter(at) == letter) {
                at++;
            } else {
                fault = MISPLACED;
            }
        }

        private int takeNumber(int least, int most) {
            if (fault != 0) {
                return 0;
            }
            int figures = 0;
            int number = 0;
            // a third figure is looked at as well, since it makes the run no NUMBER
            while (figures < 3 && isFigure(tape.letter(at + figures))) {
                number = 10 * number + tape.letter(at + figures) - '0';
                figures++;
            }
            if (figures == 0 || figures == 3) {
                fault = MISPLACED;
            } else if (!within(number, least, most)) {
                fault = NOT_AS_TOLD;
            } else {
                at += figures;
            }
            return number;
        }

        private static boolean isFigure(int letter) {
            return letter >= '0' && letter <= '9';
        }

        /** CLOUD stands for a letter that is no SORT. */
        private static int kindOf(int letter) {
            switch (letter) {
                case 'c':
                    return CUMULUS;
                case 'a':
                    return ANVIL;
                case 'm':
                    return MACKEREL;
                case 'f':
                    return FOG;
                case 'b':
                    return BANK;
                default:
                    return CLOUD;
            }
        }
    }

    /** A SKY as it is on one DAY; without CLOUDS it is none. */
    private static final class Sky {
        int number;
        int wind;
        int silk;
        int day;
        final int[] kind = new int[MOST_CLOUDS];
        final int[] place = new int[MOST_CLOUDS];
        final int[] wide = new int[MOST_CLOUDS];
        final int[] wet = new int[MOST_CLOUDS];
        final int[] hand = new int[MOST_CLOUDS];
        final int[] fell = new int[FIELDS];

        void become(Sky other) {
            number = other.number;
            wind = other.wind;
            silk = other.silk;
            day = other.day;
            System.arraycopy(other.kind, 0, kind, 0, MOST_CLOUDS);
            System.arraycopy(other.place, 0, place, 0, MOST_CLOUDS);
            System.arraycopy(other.wide, 0, wide, 0, MOST_CLOUDS);
            System.arraycopy(other.wet, 0, wet, 0, MOST_CLOUDS);
            System.arraycopy(other.hand, 0, hand, 0, MOST_CLOUDS);
            System.arraycopy(other.fell, 0, fell, 0, FIELDS);
        }

        void addCloud(int itsKind, int itsPlace, int itsWide, int itsWet, int itsHand) {
            if (number >= MOST_CLOUDS) {
                return;
            }
            kind[number] = itsKind;
            place[number] = itsPlace;
            wide[number] = itsWide;
            wet[number] = itsWet;
            hand[number] = itsHand;
            number++;
        }

        void forgetRain() {
            for (int f = 0; f < FIELDS; f++) {
                fell[f] = 0;
            }
        }

        boolean isGone(int cloud) {
            return wet[cloud] == 0;
        }

        /** The CLOUDS (bits) that are not GONE. */
        int alive() {
            int clouds = 0;
            for (int c = 0; c < number; c++) {
                if (!isGone(c)) {
                    clouds |= 1 << c;
                }
            }
            return clouds;
        }

        /** How many FIELDS a CLOUD goes on in a DAY. */
        int speed(int cloud) {
            switch (kind[cloud]) {
                case CUMULUS:
                case MACKEREL:
                    return wind;
                case ANVIL:
                    return wind + 1;
                default:
                    return 0;
            }
        }

        /** How much a CLOUD RAINS on each FIELD on this DAY. */
        int rain(int cloud) {
            switch (kind[cloud]) {
                case CUMULUS:
                case FOG:
                    return 1;
                case ANVIL:
                    return 2;
                case BANK:
                    return day & 1;
                default:
                    return 0;
            }
        }

        int need(int cloud) {
            return wide[cloud] * rain(cloud);
        }

        /** The FIELDS (bits) from PLACE on, GONE or not. */
        private int reach(int cloud) {
            return turned((1 << wide[cloud]) - 1, place[cloud]);
        }

        /** The FIELDS (bits) that a CLOUD is over. */
        int shade(int cloud) {
            return isGone(cloud) ? 0 : reach(cloud);
        }

        int cloudsOver(int field) {
            int clouds = 0;
            for (int c = 0; c < number; c++) {
                if ((shade(c) >> field & 1) != 0) {
                    clouds |= 1 << c;
                }
            }
            return clouds;
        }

        void mend(int cloud) {
            wet[cloud] = Math.min(wet[cloud] + silk, MOST_WET);
        }

        /** A DAY: how much fell in it. */
        int passDay() {
            int all = 0;
            for (int c = 0; c < number; c++) {
                int fields = goOn(c);
                int much = rain(c);
                rainOn(fields, much);
                all += Integer.bitCount(fields) * much;
            }
            day++;
            return all;
        }

        /** What a CLOUD does in a DAY: the FIELDS (bits) on which it RAINS. */
        int goOn(int cloud) {
            if (isGone(cloud)) {
                return 0;
            }
            place[cloud] = ring(place[cloud] + speed(cloud));
            if (kind[cloud] == ANVIL && (day & 1) == 0) {
                wide[cloud] = Math.min(wide[cloud] + 1, MOST_WIDE);
            }
            int need = need(cloud);
            if (need == 0 || wet[cloud] < need) {
                wet[cloud]--;
                return 0;
            }
            wet[cloud] -= need;
            // by reach, since the rain may have taken the last of its WET
            return reach(cloud);
        }

        private void rainOn(int fields, int much) {
            for (int f = 0; f < FIELDS; f++) {
                if ((fields >> f & 1) != 0) {
                    fell[f] += much;
                }
            }
        }

        int fallen() {
            int all = 0;
            for (int f = 0; f < FIELDS; f++) {
                all += fell[f];
            }
            return all;
        }

        int fieldsWithoutRain() {
            int fields = 0;
            for (int f = 0; f < FIELDS; f++) {
                if (fell[f] == 0) {
                    fields |= 1 << f;
                }
            }
            return fields;
        }

        /** The FIELDS (bits) over which a CLOUD is. */
        int shaded() {
            int fields = 0;
            for (int c = 0; c < number; c++) {
                fields |= shade(c);
            }
            return fields;
        }

        private boolean isPair(int cloud, int other) {
            return !isGone(cloud) && !isGone(other) && hand[cloud] != hand[other]
                    && kind[cloud] == kind[other] && wide[cloud] == wide[other];
        }

        int alikePairs() {
            int pairs = 0;
            for (int c = 0; c < number; c++) {
                for (int o = c + 1; o < number; o++) {
                    if (isPair(c, o)) {
                        pairs++;
                    }
                }
            }
            return pairs;
        }

        int firstAlikePair() {
            for (int c = 0; c < number; c++) {
                for (int o = c + 1; o < number; o++) {
                    if (isPair(c, o)) {
                        return 10 * c + o;
                    }
                }
            }
            return NONE;
        }

        /** How much is WET of all that is of a HAND (GONE ones have none). */
        int wetOf(int itsHand) {
            int all = 0;
            for (int c = 0; c < number; c++) {
                if (hand[c] == itsHand) {
                    all += wet[c];
                }
            }
            return all;
        }
    }

    /** The SKY as it was ahead of each of the latest ACTS, in a ring. */
    private static final class Acts {
        private static final int MOST_ACTS = 24;

        int kept;
        private final Sky now;
        private final Sky[] before = new Sky[MOST_ACTS];
        private int next;

        Acts(Sky now) {
            this.now = now;
            for (int k = 0; k < MOST_ACTS; k++) {
                before[k] = new Sky();
            }
        }

        void forgetAll() {
            kept = 0;
            next = 0;
        }

        /** Comes ahead of what an ACT changes; of too many the oldest is written over. */
        void keep() {
            before[next].become(now);
            next = next + 1 < MOST_ACTS ? next + 1 : 0;
            kept = Math.min(kept + 1, MOST_ACTS);
        }

        void takeBack() {
            next = next > 0 ? next - 1 : MOST_ACTS - 1;
            kept--;
            now.become(before[next]);
        }
    }

    /** What will be, on a copy of the SKY that is used again for each call. */
    private static final class Foreteller {
        private static final long FACTOR = 16807L, MODULUS = 2147483647L;

        private final Sky now;
        private final Rows rows;
        private final Sky then = new Sky();

        Foreteller(Sky now, Rows rows) {
            this.now = now;
            this.rows = rows;
        }

        private void begin() {
            then.become(now);
            then.forgetRain();
        }

        /** The SKY behind n DAYS; in it fell what falls in these alone. */
        Sky behind(int n) {
            begin();
            for (int d = 0; d < n; d++) {
                then.passDay();
            }
            return then;
        }

        Sky behindDraws(int n, int seed) {
            begin();
            long x = seed;
            for (int d = 0; d < n; d++) {
                x = x * FACTOR % MODULUS;
                then.wind = (int) (x % FIELDS);
                if (x % 9 == 0 && then.number > 0) {
                    then.mend((int) (x % then.number));
                }
                then.passDay();
            }
            return then;
        }

        int firstRain(int field) {
            begin();
            for (int d = 1; d <= FARTHEST; d++) {
                then.passDay();
                if (then.fell[field] != 0) {
                    return d;
                }
            }
            return NONE;
        }

        int firstGone(int cloud) {
            begin();
            for (int d = 0; d <= FARTHEST; d++) {
                if (then.isGone(cloud)) {
                    return d;
                }
                then.passDay();
            }
            return NONE;
        }

        int firstMeeting(int cloud, int other) {
            if (now.hand[cloud] == now.hand[other]) {
                return NONE;
            }
            begin();
            for (int d = 0; d <= FARTHEST; d++) {
                if ((then.shade(cloud) & then.shade(other)) != 0) {
                    return d;
                }
                then.passDay();
            }
            return NONE;
        }

        /** Behind how many DAYS the first m DAYS begin that are dry on a FIELD. */
        int firstDrySpell(int field, int m) {
            begin();
            int from = 0;
            for (int d = 0; d < LAST_HARVEST + m && from <= LAST_HARVEST; d++) {
                int before = then.fell[field];
                then.passDay();
                if (then.fell[field] != before) {
                    from = d + 1;
                } else if (d + 1 - from >= m) {
                    return from;
                }
            }
            return NONE;
        }

        int kindsThatFit(int cloud, int field, int row, int i, int n) {
            int kinds = 0;
            for (int kind = CUMULUS; kind <= BANK; kind++) {
                begin();
                then.kind[cloud] = kind;
                if (fits(field, row, i, n)) {
                    kinds |= 1 << kind;
                }
            }
            return kinds;
        }

        int placesThatFit(int cloud, int field, int row, int i, int n) {
            int places = 0;
            for (int place = 0; place < FIELDS; place++) {
                begin();
                then.place[cloud] = place;
                if (fits(field, row, i, n)) {
                    places |= 1 << place;
                }
            }
            return places;
        }

        /** Does on each of n DAYS so much fall on a FIELD as the ROW tells? */
        private boolean fits(int field, int row, int i, int n) {
            for (int d = 0; d < n; d++) {
                int before = then.fell[field];
                then.passDay();
                if (then.fell[field] - before != rows.item(row, i + d)) {
                    return false;
                }
            }
            return true;
        }
    }

    /** The least towing, by trying all ways in their order. */
    private static final class Towing {
        private static final int FARTHEST_TOW = 3;

        int least;
        final int[] best = new int[MOST_CLOUDS];
        private final Sky now;
        private final Sky then = new Sky();
        private final int[] wetted = new int[MOST_CLOUDS];
        private final int[] way = new int[MOST_CLOUDS];
        private int wanted;

        Towing(Sky now) {
            this.now = now;
        }

        /** Is there a way? Then best is the first of the least ones. */
        boolean find(int fields, int n) {
            wanted = fields;
            findWetted(n);
            int none = FARTHEST_TOW * MOST_CLOUDS + 1;
            least = none;
            tryFrom(0, 0, 0);
            return least < none;
        }

        /** The FIELDS (bits) on which each CLOUD RAINS in n DAYS, untowed: towing only turns them. */
        private void findWetted(int n) {
            then.become(now);
            for (int c = 0; c < MOST_CLOUDS; c++) {
                wetted[c] = 0;
            }
            for (int d = 0; d < n; d++) {
                for (int c = 0; c < then.number; c++) {
                    wetted[c] |= then.goOn(c);
                }
                then.day++;
            }
        }

        /** Tries all tows of a CLOUD and those behind it; only a lesser way replaces an earlier one. */
        private void tryFrom(int cloud, int total, int wet) {
            if (total >= least) {
                return;
            }
            if (cloud >= now.number || cloud >= MOST_CLOUDS) {
                if ((wanted & ~wet) == 0) {
                    least = total;
                    System.arraycopy(way, 0, best, 0, MOST_CLOUDS);
                }
                return;
            }
            int farthest = now.isGone(cloud) ? 0 : FARTHEST_TOW;
            for (int far = 0; far <= farthest; far++) {
                way[cloud] = far;
                tryFrom(cloud + 1, total + far, wet | turned(wetted[cloud], far));
            }
        }
    }

    /** How likely it is that signatures are seen: a fraction in lowest terms. */
    private static final class Chances {
        long above;
        long below;
        private final long[] cases = new long[MOST_CLOUDS + 1];

        /** That k of so many are seen, or more, each in p of 10 cases. */
        void weigh(int many, int k, int p) {
            below = 1;
            for (int j = 0; j <= MOST_CLOUDS; j++) {
                cases[j] = j == 0 ? 1 : 0;
            }
            for (int c = 0; c < many; c++) {
                below *= 10;
                for (int j = MOST_CLOUDS; j >= 0; j--) {
                    long oneMore = j > 0 ? cases[j - 1] * p : 0;
                    cases[j] = cases[j] * (10 - p) + oneMore;
                }
            }
            above = 0;
            for (int j = k; j <= MOST_CLOUDS; j++) {
                above += cases[j];
            }
            long common = commonDivisor(below, above);
            if (common > 1) {
                above /= common;
                below /= common;
            }
        }

        private static long commonDivisor(long a, long b) {
            long greater = a;
            long lesser = b;
            // below 10 to the 5th, sixty-four steps are more than enough
            for (int step = 0; step < 64 && lesser != 0; step++) {
                long rest = greater % lesser;
                greater = lesser;
                lesser = rest;
            }
            return greater;
        }
    }

    /** ASKS of a CLOUD, answered by BODIES that leave their numbers. */
    private static final class Asks {
        private static final int MARK = 1, SIZE = 0, MOST_TRACED = 16, DEEPEST = 20;
        /** The BODY told for each KIND; 0 if none is told. */
        private static final int[] SIZES = {10, 11, 12, 0, 13, 14};
        private static final int[] MARKS = {20, 21, 24, 22, 23, 0};

        int traced;
        final int[] numbers = new int[MOST_TRACED];
        private final Sky now;

        Asks(Sky now) {
            this.now = now;
        }

        int begin(int one, int what) {
            traced = 0;
            return answer(one, what, 0);
        }

        private int answer(int one, int what, int depth) {
            return body(bodyFor(now.kind[one], what), one, depth + 1);
        }

        private static int bodyFor(int kind, int what) {
            int at = kind;
            for (int step = 0; step <= BANK && at >= CLOUD && at <= BANK; step++) {
                int number = what == SIZE ? SIZES[at] : MARKS[at];
                if (number != 0) {
                    return number;
                }
                at = NEAREST[at];
            }
            return 0;
        }

        private int body(int number, int one, int depth) {
            if (depth > DEEPEST) {
                return 0;
            }
            leave(number);
            int deeper = depth + 1;
            switch (number) {
                case 10:
                    return now.wet[one];
                case 11:
                    return body(10, one, deeper) + answer(one, MARK, deeper);
                case 12:
                    return -body(11, one, deeper);
                case 13:
                    return body(10, one, deeper) - 100;
                case 14:
                    return 2 * body(13, one, deeper);
                case 20:
                    return one;
                case 21:
                    return body(20, one, deeper) + now.wide[one];
                case 22:
                    return body(21, one, deeper) - 1000;
                case 23:
                    return body(20, one, deeper) - answer(one, SIZE, deeper);
                case 24:
                    return 2 * body(21, one, deeper);
                default:
                    return 0;
            }
        }

        private void leave(int number) {
            if (traced < MOST_TRACED) {
                numbers[traced] = number;
                traced++;
            }
        }
    }
}
