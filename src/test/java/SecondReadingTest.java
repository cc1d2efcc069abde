import java.lang.reflect.InvocationTargetException;
import java.lang.reflect.Method;
import java.util.ArrayList;
import java.util.HashMap;
import java.util.List;
import java.util.Map;
import java.util.Random;

/** All promises: runs by draws, the same calls on the class and on a second reading of the document. */
public final class SecondReadingTest {
    private static final int RUNS = 1500, CALLS = 512, LONGEST_TEXT = 110, MOST_SHOWN = 20;
    private static final int[] EXTREMES = {Integer.MIN_VALUE, Integer.MAX_VALUE, -1, 1 << 16, -1000000, 41, 256};

    /** What each argument is most often, from and to. */
    private static final Map<String, int[]> USUAL = new HashMap<>();

    static {
        USUAL.put("row", new int[] {0, 3, 0, 2, 0, 14});
        USUAL.put("set", new int[] {0, 3, 0, 13, -1, 4});
        USUAL.put("copy", new int[] {0, 3, 0, 8, 0, 3, 0, 8, 0, 8});
        USUAL.put("drop", new int[] {0, 7});
        USUAL.put("feed", new int[] {0, 255});
        USUAL.put("days", new int[] {1, 3});
        USUAL.put("wind", new int[] {0, 15});
        USUAL.put("tow", new int[] {0, 4, 1, 15});
        USUAL.put("silk", new int[] {0, 4});
        USUAL.put("sign", new int[] {0, 4, 0, 9});
        USUAL.put("cloud", new int[] {0, 4, 0, 5});
        USUAL.put("field", new int[] {0, 15, 0, 1});
        USUAL.put("ahead", new int[] {0, 4, 0, 60, 0, 1});
        USUAL.put("over", new int[] {0, 15, 0, 60});
        USUAL.put("falls", new int[] {0, 15, 0, 60});
        USUAL.put("dry", new int[] {0, 60});
        USUAL.put("first", new int[] {0, 15});
        USUAL.put("gone", new int[] {0, 4});
        USUAL.put("storm", new int[] {0, 4, 0, 4});
        USUAL.put("blue", new int[] {0, 1});
        USUAL.put("leastTow", new int[] {0, 65535, 1, 24, -1, 4});
        USUAL.put("harvest", new int[] {0, 15, 1, 9});
        USUAL.put("who", new int[] {0, 4, 0, 15, 0, 3, 0, 4, 1, 5});
        USUAL.put("places", new int[] {0, 4, 0, 15, 0, 3, 0, 4, 1, 5});
        USUAL.put("from", new int[] {0, 4, 0, 60});
        USUAL.put("alike", new int[] {0, 1});
        USUAL.put("likeness", new int[] {0, 4, 0, 4});
        USUAL.put("estate", new int[] {0, 9});
        USUAL.put("seen", new int[] {0, 5, 0, 10, 0, 1});
        USUAL.put("drawn", new int[] {0, 60, 1, 999999, 0, 1});
        USUAL.put("image", new int[] {0, 1});
        USUAL.put("restore", new int[] {0, 1});
        USUAL.put("kind", new int[] {0, 4});
        USUAL.put("as", new int[] {0, 4, 0, 5});
        USUAL.put("ask", new int[] {0, 4, 0, 1});
        USUAL.put("trace", new int[] {0, 6});
        USUAL.put("count", new int[] {0, 7});
    }

    private final Random draws;
    private final SignedClouds one = new SignedClouds();
    private final PlainClouds other = new PlainClouds();
    private final List<String> told = new ArrayList<>();
    private int calls;

    private SecondReadingTest(long seed) {
        draws = new Random(seed);
    }

    public static void main(String[] args) throws ReflectiveOperationException {
        int runs = args.length > 0 ? Integer.parseInt(args[0]) : RUNS;
        long from = args.length > 1 ? Long.parseLong(args[1]) : 1;
        int wrong = 0;
        for (long seed = from; seed < from + runs && wrong < 5; seed++) {
            wrong += new SecondReadingTest(seed).run() ? 0 : 1;
        }
        System.out.println(runs + " runs, " + wrong + " wrong");
        if (wrong != 0) {
            System.exit(1);
        }
    }

    private boolean run() throws ReflectiveOperationException {
        List<Method> face = new ArrayList<>();
        for (Method m : SignedClouds.class.getDeclaredMethods()) {
            if (java.lang.reflect.Modifier.isPublic(m.getModifiers()) && !m.getName().equals("leastTow")) {
                face.add(m);
            }
        }
        face.sort((a, b) -> a.getName().compareTo(b.getName()));
        Method tow = SignedClouds.class.getMethod("leastTow", int.class, int.class, int.class);
        boolean same = draws.nextInt(4) == 0 || text();
        while (same && calls < CALLS) {
            int dice = draws.nextInt(150);
            if (dice == 0 && calls <= CALLS - LONGEST_TEXT) {
                same = text();
            } else if (dice < 3) {
                same = call(tow, new Object[] {fewFields(), 1 + draws.nextInt(24), draws.nextInt(6) - 1});
            } else {
                Method m = face.get(draws.nextInt(face.size()));
                // feeds and skies come as texts: alone they would be all but always faulty
                boolean rare = m.getName().equals("sky") || m.getName().equals("feed") || m.getName().equals("restore");
                same = rare && draws.nextInt(5) != 0 || call(m, arguments(m));
            }
        }
        return same;
    }

    private int fewFields() {
        int fields = 0;
        for (int k = draws.nextInt(6); k > 0; k--) {
            fields |= 1 << draws.nextInt(16);
        }
        return draws.nextInt(20) == 0 ? draws.nextInt(70000) - 1000 : fields;
    }

    private Object[] arguments(Method m) {
        Object[] arguments = new Object[m.getParameterCount()];
        int[] usual = USUAL.get(m.getName());
        for (int k = 0; k < arguments.length; k++) {
            int from = usual[2 * k];
            int to = usual[2 * k + 1];
            int dice = draws.nextInt(100);
            if (dice < 94) {
                arguments[k] = from + draws.nextInt(to - from + 1);
            } else if (dice < 99) {
                arguments[k] = draws.nextBoolean() ? from - 1 - draws.nextInt(2) : to + 1 + draws.nextInt(2);
            } else {
                arguments[k] = EXTREMES[draws.nextInt(EXTREMES.length)];
            }
        }
        return arguments;
    }

    private boolean text() throws ReflectiveOperationException {
        StringBuilder text = new StringBuilder();
        int narrow = draws.nextInt(3) == 0 ? 3 : 10;
        text.append('w').append(draws.nextInt(16)).append(',').append(1 + draws.nextInt(20)).append(';');
        int many = 1 + draws.nextInt(draws.nextInt(6) == 0 ? 7 : 5);
        for (int c = 0; c < many; c++) {
            text.append("camfb".charAt(draws.nextInt(5))).append(draws.nextInt(16)).append(',');
            text.append(1 + draws.nextInt(Math.min(8, narrow))).append(',').append(1 + draws.nextInt(60)).append(',');
            text.append(draws.nextInt(narrow)).append(';');
        }
        if (draws.nextInt(3) == 0) {
            spoil(text);
        }
        Method feed = SignedClouds.class.getMethod("feed", int.class);
        boolean same = true;
        for (int i = 0; i < text.length() && same; i++) {
            same = call(feed, new Object[] {(int) text.charAt(i)});
        }
        return same && call(SignedClouds.class.getMethod("sky"), new Object[0])
                && call(SignedClouds.class.getMethod("fault"), new Object[0]);
    }

    private void spoil(StringBuilder text) {
        for (int k = 1 + draws.nextInt(2); k > 0 && text.length() > 1; k--) {
            int at = draws.nextInt(text.length());
            String letters = "wcamfbz0123456789,;{ \u00e9\u00b2";
            char letter = letters.charAt(draws.nextInt(letters.length()));
            switch (draws.nextInt(4)) {
                case 0:
                    text.deleteCharAt(at);
                    break;
                case 1:
                    text.insert(at, letter);
                    break;
                case 2:
                    text.setCharAt(at, letter);
                    break;
                default:
                    text.setLength(at);
                    break;
            }
        }
    }

    private boolean call(Method m, Object[] arguments) throws ReflectiveOperationException {
        calls++;
        Method second = PlainClouds.class.getMethod(m.getName(), m.getParameterTypes());
        StringBuilder call = new StringBuilder(m.getName()).append('(');
        for (int k = 0; k < arguments.length; k++) {
            call.append(k == 0 ? "" : ", ").append(arguments[k]);
        }
        call.append(')');
        long want = ((Number) second.invoke(other, arguments)).longValue();
        long got;
        try {
            got = ((Number) m.invoke(one, arguments)).longValue();
        } catch (InvocationTargetException e) {
            System.out.println(call + " threw " + e.getCause());
            return false;
        }
        told.add(call + " = " + got);
        if (got != want) {
            for (String line : told.subList(Math.max(0, told.size() - MOST_SHOWN), told.size())) {
                System.out.println("  " + line);
            }
            System.out.println("due is " + want);
        }
        return got == want;
    }
}
