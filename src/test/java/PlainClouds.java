import java.lang.reflect.Array;
import java.math.BigInteger;
import java.util.ArrayDeque;
import java.util.ArrayList;
import java.util.Arrays;
import java.util.Deque;
import java.util.List;
import java.util.function.Predicate;

/**
 * The document read a second time, apart from the class: with the Java library, with the machine's own
 * arrays for rows, with a class for each kind, and by trying out rather than by thinking ahead.
 */
public final class PlainClouds {
    private static final int NONE = -1000000, BAD = -1000001, STATE = -1000002, FULL = -1000003;

    static class Cloud implements Cloneable {
        int number, place, wide, wet, hand;

        boolean gone() {
            return wet == 0;
        }

        boolean covers(int field) {
            for (int k = 0; k < wide; k++) {
                if ((place + k) % 16 == field) {
                    return true;
                }
            }
            return false;
        }

        void drift(int wind, int day) {
        }

        int rains(int day) {
            return 0;
        }

        int size(List<Integer> trace) {
            trace.add(10);
            return wet;
        }

        int mark(List<Integer> trace) {
            trace.add(20);
            return number;
        }

        Cloud twin() {
            try {
                return (Cloud) clone();
            } catch (CloneNotSupportedException e) {
                throw new IllegalStateException(e);
            }
        }
    }

    static class Cumulus extends Cloud {
        @Override
        void drift(int wind, int day) {
            place = (place + wind) % 16;
        }

        @Override
        int rains(int day) {
            return 1;
        }

        @Override
        int size(List<Integer> trace) {
            trace.add(11);
            int wetness = super.size(trace);
            return wetness + mark(trace);
        }

        @Override
        int mark(List<Integer> trace) {
            trace.add(21);
            return super.mark(trace) + wide;
        }
    }

    static final class Anvil extends Cumulus {
        @Override
        void drift(int wind, int day) {
            place = (place + wind + 1) % 16;
            if (day % 2 == 0 && wide < 8) {
                wide++;
            }
        }

        @Override
        int rains(int day) {
            return 2;
        }

        @Override
        int size(List<Integer> trace) {
            trace.add(12);
            return -super.size(trace);
        }

        @Override
        int mark(List<Integer> trace) {
            trace.add(24);
            return super.mark(trace) * 2;
        }
    }

    static final class Mackerel extends Cumulus {
        @Override
        int rains(int day) {
            return 0;
        }

        @Override
        int mark(List<Integer> trace) {
            trace.add(22);
            return super.mark(trace) - 1000;
        }
    }

    static class Fog extends Cloud {
        @Override
        int rains(int day) {
            return 1;
        }

        @Override
        int size(List<Integer> trace) {
            trace.add(13);
            return super.size(trace) - 100;
        }

        @Override
        int mark(List<Integer> trace) {
            trace.add(23);
            int number = super.mark(trace);
            return number - size(trace);
        }
    }

    static final class Bank extends Fog {
        @Override
        int rains(int day) {
            return day % 2 == 1 ? 1 : 0;
        }

        @Override
        int size(List<Integer> trace) {
            trace.add(14);
            return super.size(trace) * 2;
        }
    }

    private static final List<Class<? extends Cloud>> KINDS =
            List.of(Cloud.class, Cumulus.class, Anvil.class, Mackerel.class, Fog.class, Bank.class);

    private static Cloud ofKind(int kind) {
        switch (kind) {
            case 1:
                return new Cumulus();
            case 2:
                return new Anvil();
            case 3:
                return new Mackerel();
            case 4:
                return new Fog();
            default:
                return new Bank();
        }
    }

    private static Cloud recast(Cloud cloud, int kind) {
        Cloud other = ofKind(kind);
        other.number = cloud.number;
        other.place = cloud.place;
        other.wide = cloud.wide;
        other.wet = cloud.wet;
        other.hand = cloud.hand;
        return other;
    }

    static final class Heaven {
        int wind, silk, day;
        List<Cloud> clouds = new ArrayList<>();
        int[] fell = new int[16];

        Heaven twin() {
            Heaven other = new Heaven();
            other.wind = wind;
            other.silk = silk;
            other.day = day;
            for (Cloud cloud : clouds) {
                other.clouds.add(cloud.twin());
            }
            other.fell = fell.clone();
            return other;
        }

        int all() {
            return Arrays.stream(fell).sum();
        }

        void pass() {
            for (Cloud cloud : clouds) {
                if (!cloud.gone()) {
                    cloud.drift(wind, day);
                }
            }
            for (Cloud cloud : clouds) {
                if (cloud.gone()) {
                    continue;
                }
                int need = cloud.wide * cloud.rains(day);
                if (need != 0 && cloud.wet >= need) {
                    for (int f = 0; f < 16; f++) {
                        fell[f] += cloud.covers(f) ? cloud.rains(day) : 0;
                    }
                    cloud.wet -= need;
                } else {
                    cloud.wet -= 1;
                }
            }
            day++;
        }

        Heaven later(int n) {
            Heaven then = twin();
            Arrays.fill(then.fell, 0);
            for (int d = 0; d < n; d++) {
                then.pass();
            }
            return then;
        }

        int over(int field) {
            return cloudBits(c -> !c.gone() && c.covers(field));
        }

        int cloudBits(Predicate<Cloud> which) {
            int bits = 0;
            for (Cloud cloud : clouds) {
                bits |= which.test(cloud) ? 1 << cloud.number : 0;
            }
            return bits;
        }
    }

    private final Object[] rows = new Object[8];
    private final StringBuilder tape = new StringBuilder();
    private final Heaven[] images = new Heaven[2];
    private Deque<Heaven> past = new ArrayDeque<>();
    private List<Integer> trace = new ArrayList<>();
    private Heaven heaven;
    private int fault;
    private int finding;

    private interface OnRows {
        int run();
    }

    private int finding(OnRows call) {
        int number = 0;
        int answer = 0;
        try {
            answer = call.run();
        } catch (NullPointerException e) {
            number = 1;
        } catch (ArrayStoreException e) {
            number = 5;
        } catch (IndexOutOfBoundsException e) {
            number = 2;
        } catch (NegativeArraySizeException e) {
            number = 4;
        } catch (ClassCastException e) {
            number = 3;
        }
        finding = number;
        return number == 0 ? answer : -1000010 - number;
    }

    public int row(int row, int lane, int n) {
        if (row < 0 || row > 7 || lane < 0 || lane > 2 || n > 40) {
            return BAD;
        }
        Class<?> type = lane == 0 ? byte.class : lane == 1 ? short.class : int.class;
        return finding(() -> {
            rows[row] = Array.newInstance(type, n);
            return n;
        });
    }

    public int set(int row, int i, int v) {
        if (row < 0 || row > 7) {
            return BAD;
        }
        return finding(() -> {
            if (rows[row] instanceof byte[]) {
                ((byte[]) rows[row])[i] = (byte) v;
            } else if (rows[row] instanceof short[]) {
                ((short[]) rows[row])[i] = (short) v;
            } else {
                ((int[]) rows[row])[i] = v;
            }
            return Array.getInt(rows[row], i);
        });
    }

    public int copy(int a, int i, int b, int j, int n) {
        if (a < 0 || a > 7 || b < 0 || b > 7) {
            return BAD;
        }
        return finding(() -> {
            System.arraycopy(rows[a], i, rows[b], j, n);
            return n;
        });
    }

    public int drop(int row) {
        if (row < 0 || row > 7) {
            return BAD;
        }
        return finding(() -> {
            int had = Array.getLength(rows[row]);
            rows[row] = null;
            return had;
        });
    }

    public int feed(int letter) {
        if (letter < 0 || letter > 255) {
            return BAD;
        }
        if (tape.length() == 100) {
            return FULL;
        }
        tape.append((char) letter);
        return tape.length();
    }

    public int sky() {
        String text = tape.toString();
        tape.setLength(0);
        Heaven read = new Heaven();
        int at = 0;
        int slot = 0;
        // slots of the law: w WIND , SILK ; and of a cloud: SORT PLACE , WIDE , WET , HAND ;
        String[] law = {"w", "0-15", ",", "1-20", ";"};
        String[] one = {"camfb", "0-15", ",", "1-8", ",", "1-60", ",", "0-9", ";"};
        List<Integer> values = new ArrayList<>();
        while (true) {
            boolean inLaw = slot < law.length;
            int inCloud = inLaw ? -1 : (slot - law.length) % one.length;
            String wanted = inLaw ? law[slot] : one[inCloud];
            if (at == text.length()) {
                if (inCloud == 0 && slot > law.length) {
                    break;
                }
                return faulty(1, at);
            }
            String token = tokenAt(text, at);
            if (wanted.contains("-")) {
                if (!token.matches("[0-9]{1,2}")) {
                    return faulty(1, at);
                }
                String[] ends = wanted.split("-");
                int value = Integer.parseInt(token);
                if (value < Integer.parseInt(ends[0]) || value > Integer.parseInt(ends[1])) {
                    return faulty(2, at);
                }
                values.add(value);
            } else if (token.isEmpty() || !wanted.contains(token)) {
                return faulty(1, at);
            } else if (inCloud == 0) {
                if (slot == law.length + 5 * one.length) {
                    return faulty(3, at);
                }
                values.add("-camfb".indexOf(token));
            }
            at += token.length();
            slot++;
        }
        read.wind = values.get(0);
        read.silk = values.get(1);
        for (int v = 2; v < values.size(); v += 5) {
            Cloud cloud = ofKind(values.get(v));
            cloud.number = read.clouds.size();
            cloud.place = values.get(v + 1);
            cloud.wide = values.get(v + 2);
            cloud.wet = values.get(v + 3);
            cloud.hand = values.get(v + 4);
            read.clouds.add(cloud);
        }
        heaven = read;
        past.clear();
        return heaven.clouds.size();
    }

    private static String tokenAt(String text, int at) {
        int end = at;
        while (end < text.length() && Character.isDigit(text.charAt(end)) && text.charAt(end) < 128) {
            end++;
        }
        if (end == at) {
            end++;
        }
        String token = text.substring(at, end);
        return token.matches("[a-z,;]|[0-9]{1,2}") ? token : "";
    }

    private int faulty(int number, int place) {
        fault = number;
        return -1000100 - place;
    }

    public int fault() {
        return fault;
    }

    private void act() {
        past.addLast(heaven.twin());
        if (past.size() > 24) {
            past.removeFirst();
        }
    }

    public int undo() {
        if (past.isEmpty()) {
            return STATE;
        }
        heaven = past.removeLast();
        return past.size();
    }

    private Cloud find(int cloud) {
        return heaven == null || cloud < 0 || cloud >= heaven.clouds.size() ? null : heaven.clouds.get(cloud);
    }

    public int days(int n) {
        if (heaven == null) {
            return STATE;
        }
        if (n < 1 || n > 24) {
            return BAD;
        }
        if (heaven.day + n > 999) {
            return FULL;
        }
        int before = heaven.all();
        for (int d = 0; d < n; d++) {
            act();
            heaven.pass();
        }
        return heaven.all() - before;
    }

    public int wind(int n) {
        if (heaven == null) {
            return STATE;
        }
        if (n < 0 || n > 15) {
            return BAD;
        }
        act();
        int was = heaven.wind;
        heaven.wind = n;
        return was;
    }

    public int tow(int cloud, int n) {
        if (find(cloud) == null || n < 1 || n > 15) {
            return BAD;
        }
        if (find(cloud).gone()) {
            return STATE;
        }
        act();
        find(cloud).place = (find(cloud).place + n) % 16;
        return find(cloud).place;
    }

    public int silk(int cloud) {
        if (find(cloud) == null) {
            return BAD;
        }
        if (find(cloud).wet + heaven.silk > 99) {
            return FULL;
        }
        act();
        find(cloud).wet += heaven.silk;
        return find(cloud).wet;
    }

    public int sign(int cloud, int hand) {
        if (find(cloud) == null || hand < 0 || hand > 9) {
            return BAD;
        }
        act();
        int was = find(cloud).hand;
        find(cloud).hand = hand;
        return was;
    }

    public int cloud(int cloud, int what) {
        Cloud c = find(cloud);
        if (c == null || what < 0 || what > 5) {
            return BAD;
        }
        int bits = 0;
        for (int f = 0; f < 16; f++) {
            bits |= !c.gone() && c.covers(f) ? 1 << f : 0;
        }
        return new int[] {c.place, c.wide, c.wet, c.hand, bits, c.wide * c.rains(heaven.day)}[what];
    }

    private static boolean noField(int field) {
        return field < 0 || field > 15;
    }

    public int field(int field, int what) {
        if (heaven == null) {
            return STATE;
        }
        if (noField(field) || what < 0 || what > 1) {
            return BAD;
        }
        return what == 0 ? heaven.fell[field] : heaven.over(field);
    }

    public int ahead(int cloud, int n, int what) {
        if (find(cloud) == null || n < 0 || n > 60 || what < 0 || what > 1) {
            return BAD;
        }
        Cloud then = heaven.later(n).clouds.get(cloud);
        return then.gone() ? NONE : what == 0 ? then.place : then.wide;
    }

    public int over(int field, int n) {
        if (heaven == null) {
            return STATE;
        }
        return noField(field) || n < 0 || n > 60 ? BAD : heaven.later(n).over(field);
    }

    public int falls(int field, int n) {
        if (heaven == null) {
            return STATE;
        }
        return noField(field) || n < 0 || n > 60 ? BAD : heaven.later(n).fell[field];
    }

    public int dry(int n) {
        if (heaven == null) {
            return STATE;
        }
        if (n < 0 || n > 60) {
            return BAD;
        }
        int bits = 0;
        for (int f = 0; f < 16; f++) {
            bits |= falls(f, n) == 0 ? 1 << f : 0;
        }
        return bits;
    }

    public int first(int field) {
        if (heaven == null) {
            return STATE;
        }
        if (noField(field)) {
            return BAD;
        }
        for (int d = 1; d <= 60; d++) {
            if (falls(field, d) > 0) {
                return d;
            }
        }
        return NONE;
    }

    public int gone(int cloud) {
        if (find(cloud) == null) {
            return BAD;
        }
        for (int d = 0; d <= 60; d++) {
            if (ahead(cloud, d, 0) == NONE) {
                return d;
            }
        }
        return NONE;
    }

    public int storm(int cloud, int other) {
        if (find(cloud) == null || find(other) == null || cloud == other) {
            return BAD;
        }
        if (find(cloud).hand == find(other).hand) {
            return NONE;
        }
        int both = 1 << cloud | 1 << other;
        for (int d = 0; d <= 60; d++) {
            for (int f = 0; f < 16; f++) {
                if ((over(f, d) & both) == both) {
                    return d;
                }
            }
        }
        return NONE;
    }

    public int blue(int what) {
        if (heaven == null) {
            return STATE;
        }
        if (what < 0 || what > 1) {
            return BAD;
        }
        for (int many = 16; many >= 1; many--) {
            for (int from = 0; from < 16; from++) {
                int clouds = 0;
                for (int k = 0; k < many; k++) {
                    clouds |= heaven.over((from + k) % 16);
                }
                if (clouds == 0) {
                    return what == 0 ? many : from;
                }
            }
        }
        return what == 0 ? 0 : NONE;
    }

    public int leastTow(int fields, int n, int k) {
        if (heaven == null) {
            return STATE;
        }
        int many = heaven.clouds.size();
        if (n < 1 || n > 24 || fields < 0 || fields > 65535 || k < -1 || k >= many) {
            return BAD;
        }
        for (int total = 0; total <= 15; total++) {
            for (int way = 0; way < 1 << 2 * many; way++) {
                int[] far = new int[many];
                for (int c = 0; c < many; c++) {
                    far[c] = way >> 2 * (many - 1 - c) & 3;
                }
                if (Arrays.stream(far).sum() == total && rainsOnAll(far, fields, n)) {
                    return k < 0 ? total : far[k];
                }
            }
        }
        return NONE;
    }

    private boolean rainsOnAll(int[] far, int fields, int n) {
        Heaven towed = heaven.twin();
        for (int c = 0; c < far.length; c++) {
            Cloud cloud = towed.clouds.get(c);
            if (cloud.gone() && far[c] > 0) {
                return false;
            }
            cloud.place = (cloud.place + far[c]) % 16;
        }
        int[] fell = towed.later(n).fell;
        for (int f = 0; f < 16; f++) {
            if ((fields >> f & 1) == 1 && fell[f] == 0) {
                return false;
            }
        }
        return true;
    }

    public int harvest(int field, int m) {
        if (heaven == null) {
            return STATE;
        }
        if (noField(field) || m < 1 || m > 9) {
            return BAD;
        }
        for (int d = 0; d <= 30; d++) {
            if (heaven.later(d).later(m).fell[field] == 0) {
                return d;
            }
        }
        return NONE;
    }

    private boolean fits(Heaven from, int field, int row, int i, int n) {
        boolean fits = true;
        for (int d = 0; d < n; d++) {
            fits &= from.later(d).later(1).fell[field] == Array.getInt(rows[row], i + d);
        }
        return fits;
    }

    private boolean badRain(int cloud, int field, int row, int n) {
        return find(cloud) == null || noField(field) || row < 0 || row > 7 || n < 1 || n > 12;
    }

    private void lookAt(int row, int i, int n) {
        java.util.Objects.checkFromIndexSize(i, n, Array.getLength(rows[row]));
    }

    public int who(int cloud, int field, int row, int i, int n) {
        if (badRain(cloud, field, row, n)) {
            return BAD;
        }
        return finding(() -> {
            lookAt(row, i, n);
            int bits = 0;
            for (int kind = 1; kind <= 5; kind++) {
                Heaven other = heaven.twin();
                other.clouds.set(cloud, recast(other.clouds.get(cloud), kind));
                bits |= fits(other, field, row, i, n) ? 1 << kind : 0;
            }
            return bits;
        });
    }

    public int places(int cloud, int field, int row, int i, int n) {
        if (badRain(cloud, field, row, n)) {
            return BAD;
        }
        int before = finding;
        int answer = finding(() -> {
            lookAt(row, i, n);
            int bits = 0;
            for (int place = 0; place < 16; place++) {
                Heaven other = heaven.twin();
                other.clouds.get(cloud).place = place;
                bits |= fits(other, field, row, i, n) ? 1 << place : 0;
            }
            return bits;
        });
        if (finding == 0 && find(cloud).gone()) {
            finding = before;
            return STATE;
        }
        return answer;
    }

    public int from(int cloud, int n) {
        if (find(cloud) == null || n < 0 || n > 60) {
            return BAD;
        }
        if (find(cloud).gone()) {
            return STATE;
        }
        for (int place = 0; place < 16; place++) {
            Cloud back = find(cloud).twin();
            back.place = place;
            for (int d = 0; d < n; d++) {
                back.drift(heaven.wind, 1);
            }
            if (back.place == find(cloud).place) {
                return place;
            }
        }
        throw new IllegalStateException("from nowhere");
    }

    public int alike(int what) {
        if (heaven == null) {
            return STATE;
        }
        if (what < 0 || what > 1) {
            return BAD;
        }
        List<Integer> pairs = new ArrayList<>();
        for (Cloud a : heaven.clouds) {
            for (Cloud b : heaven.clouds) {
                if (a.number < b.number && !a.gone() && !b.gone() && a.hand != b.hand && a.wide == b.wide
                        && a.getClass() == b.getClass()) {
                    pairs.add(10 * a.number + b.number);
                }
            }
        }
        return what == 0 ? pairs.size() : pairs.isEmpty() ? NONE : pairs.get(0);
    }

    public int likeness(int cloud, int other) {
        if (find(cloud) == null || find(other) == null || cloud == other) {
            return BAD;
        }
        Cloud a = find(cloud);
        Cloud b = find(other);
        int unlike = a.getClass() == b.getClass() ? 0 : 20;
        return Math.max(0, 100 - unlike - 5 * Math.abs(a.wide - b.wide) - Math.abs(a.wet - b.wet));
    }

    public int estate(int hand) {
        if (heaven == null) {
            return STATE;
        }
        if (hand < 0 || hand > 9) {
            return BAD;
        }
        return heaven.clouds.stream().filter(c -> !c.gone() && c.hand == hand).mapToInt(c -> c.wet).sum();
    }

    public long seen(int k, int p, int what) {
        if (heaven == null) {
            return STATE;
        }
        if (k < 0 || k > 5 || p < 0 || p > 10 || what < 0 || what > 1) {
            return BAD;
        }
        int many = Integer.bitCount(count(2));
        BigInteger above = BigInteger.ZERO;
        for (int set = 0; set < 1 << many; set++) {
            int in = Integer.bitCount(set);
            if (in >= k) {
                above = above.add(BigInteger.valueOf(p).pow(in).multiply(BigInteger.valueOf(10 - p).pow(many - in)));
            }
        }
        BigInteger below = BigInteger.TEN.pow(many);
        BigInteger common = above.gcd(below);
        return (what == 0 ? above : below).divide(common).longValueExact();
    }

    public int drawn(int n, int seed, int what) {
        if (heaven == null) {
            return STATE;
        }
        if (n < 0 || n > 60 || seed < 1 || seed > 999999 || what < 0 || what > 1) {
            return BAD;
        }
        Heaven then = heaven.later(0);
        BigInteger x = BigInteger.valueOf(seed);
        for (int d = 0; d < n; d++) {
            x = x.multiply(BigInteger.valueOf(16807)).mod(BigInteger.valueOf(2147483647));
            then.wind = x.mod(BigInteger.valueOf(16)).intValue();
            if (x.mod(BigInteger.valueOf(9)).signum() == 0) {
                Cloud lucky = then.clouds.get(x.mod(BigInteger.valueOf(then.clouds.size())).intValue());
                lucky.wet = Math.min(99, lucky.wet + then.silk);
            }
            then.pass();
        }
        return what == 0 ? then.all() : then.cloudBits(c -> !c.gone());
    }

    public int image(int k) {
        if (k < 0 || k > 1) {
            return BAD;
        }
        if (heaven == null) {
            return STATE;
        }
        images[k] = heaven.twin();
        return 1;
    }

    public int restore(int k) {
        if (k < 0 || k > 1) {
            return BAD;
        }
        if (images[k] == null) {
            return STATE;
        }
        heaven = images[k].twin();
        past = new ArrayDeque<>();
        return 1;
    }

    public int kind(int one) {
        return find(one) == null ? BAD : KINDS.indexOf(find(one).getClass());
    }

    public int as(int one, int kind) {
        if (find(one) == null || kind < 0 || kind > 5) {
            return BAD;
        }
        return finding(() -> KINDS.get(kind).cast(find(one)).number);
    }

    public int ask(int one, int what) {
        if (find(one) == null || what < 0 || what > 1) {
            return BAD;
        }
        trace = new ArrayList<>();
        return what == 0 ? find(one).size(trace) : find(one).mark(trace);
    }

    public int trace(int i) {
        return i < 0 || i >= Math.min(16, trace.size()) ? NONE : trace.get(i);
    }

    public int count(int what) {
        switch (what) {
            case 0:
                return (int) Arrays.stream(rows).filter(r -> r != null).count();
            case 1:
                return heaven == null ? 0 : heaven.clouds.size();
            case 2:
                return heaven == null ? 0 : heaven.cloudBits(c -> !c.gone());
            case 3:
                return heaven == null ? 0 : heaven.day;
            case 4:
                return heaven == null ? 0 : heaven.wind;
            case 5:
                return heaven == null ? 0 : heaven.all();
            case 6:
                return past.size();
            case 7:
                return tape.length();
            default:
                return BAD;
        }
    }

    public int status() {
        return finding;
    }
}
