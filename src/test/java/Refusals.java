import java.lang.reflect.Method;
import java.util.ArrayList;
import java.util.List;
import java.util.function.Supplier;

/** Calls told as texts ("tow 0 15"), and whether a refused one left all as it was. */
final class Refusals {
    private static final int FIRST_FINDING = -1000011, LAST_FINDING = -1000015;

    private final Checks c;

    Refusals(Checks c) {
        this.c = c;
    }

    static long call(SignedClouds x, String told) {
        String[] words = told.split(" ");
        Object[] numbers = new Object[words.length - 1];
        for (int k = 0; k < numbers.length; k++) {
            numbers[k] = Integer.parseInt(words[k + 1]);
        }
        for (Method m : SignedClouds.class.getMethods()) {
            if (m.getName().equals(words[0]) && m.getDeclaringClass() == SignedClouds.class) {
                try {
                    return ((Number) m.invoke(x, numbers)).longValue();
                } catch (ReflectiveOperationException e) {
                    throw new IllegalStateException(told, e);
                }
            }
        }
        throw new IllegalStateException("no such call: " + told);
    }

    /**
     * Two objects made alike, of which one is asked and refused: from then on nothing tells them apart, but
     * that status() tells a finding.
     */
    void refused(Supplier<SignedClouds> made, String told, long refusal) {
        SignedClouds asked = made.get();
        SignedClouds spared = made.get();
        int fault = spared.fault();
        int status = spared.status();
        boolean finding = refusal <= FIRST_FINDING && refusal >= LAST_FINDING;
        c.due(told, call(asked, told), refusal);
        c.due(told + ", then status", asked.status(), finding ? FIRST_FINDING + 1 - refusal : status);
        c.due(told + ", then fault", asked.fault(), fault);
        same(told, asked, spared);
    }

    /** Nothing but status() and fault() tells the two apart. */
    void same(String told, SignedClouds one, SignedClouds other) {
        List<String> names = new ArrayList<>();
        List<Long> seen = allOf(one, names);
        List<Long> due = allOf(other, new ArrayList<>());
        for (int k = 0; k < due.size(); k++) {
            c.due(told + ", then " + names.get(k), seen.get(k), due.get(k));
        }
    }

    /** All that can be seen of an object; it is used up by it. */
    private static List<Long> allOf(SignedClouds x, List<String> names) {
        List<Long> seen = new ArrayList<>();
        seeAll(x, "count", 0, 7, names, seen);
        seeAll(x, "trace", 0, 7, names, seen);
        seeSky(x, names, seen);
        for (int k = x.count(6); k > 0; k--) {
            see(x, "undo", names, seen);
            seeMuch(x, names, seen);
        }
        see(x, "undo", names, seen);
        for (int k = 1; k >= 0; k--) {
            see(x, "restore " + k, names, seen);
            seeMuch(x, names, seen);
        }
        seeTape(x, names, seen);
        seeRows(x, names, seen);
        return seen;
    }

    private static void see(SignedClouds x, String told, List<String> names, List<Long> seen) {
        names.add(told);
        seen.add(call(x, told));
    }

    private static void seeAll(SignedClouds x, String name, int from, int to, List<String> names, List<Long> seen) {
        for (int k = from; k <= to; k++) {
            see(x, name + " " + k, names, seen);
        }
    }

    private static void seeSky(SignedClouds x, List<String> names, List<Long> seen) {
        for (int one = 0; one < 5; one++) {
            seeAll(x, "cloud " + one, 0, 3, names, seen);
            see(x, "kind " + one, names, seen);
        }
        for (int field = 0; field < 16; field++) {
            see(x, "field " + field + " 0", names, seen);
        }
    }

    private static void seeMuch(SignedClouds x, List<String> names, List<Long> seen) {
        seeAll(x, "count", 1, 6, names, seen);
        for (int one = 0; one < 5; one++) {
            see(x, "cloud " + one + " 0", names, seen);
            see(x, "cloud " + one + " 2", names, seen);
        }
        see(x, "field 0 0", names, seen);
        see(x, "estate 9", names, seen);
        see(x, "drawn 60 9 0", names, seen);
    }

    /** What is on the tape is read with what makes it whole. */
    private static void seeTape(SignedClouds x, List<String> names, List<Long> seen) {
        for (char letter : ",1,60,0;".toCharArray()) {
            see(x, "feed " + (int) letter, names, seen);
        }
        see(x, "sky", names, seen);
        see(x, "cloud 0 0", names, seen);
    }

    /** Under WIND 15 an anvil stays over FIELD 0: an ITEM 0, 1, 2 or another fits other KINDS each. */
    private static void seeRows(SignedClouds x, List<String> names, List<Long> seen) {
        for (char letter : "w15,1;m0,1,60,0;".toCharArray()) {
            x.feed(letter);
        }
        x.sky();
        for (int row = 0; row < 8; row++) {
            for (int i = 0; i < 5; i++) {
                see(x, "who 0 0 " + row + " " + i + " 1", names, seen);
            }
            see(x, "set " + row + " 0 -1", names, seen);
            see(x, "set " + row + " 0 65535", names, seen);
            see(x, "drop " + row, names, seen);
        }
    }
}
